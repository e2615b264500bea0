/-! BYTES; feed -/
section BYT
variable {z : Nat} {g : Mem} {C C' : Nat → Nat → Int} {nb : Nat} {A : Rw} {b N : Nat}
theorem isBytes.le (h : isBytes b N) : N ≤ 1000 := (okA_s h.2.2.2).2.2.2
theorem s_bsize {K : Int32 → Prop} (h : isBytes b N) : PX1_size (ad z b) (lay z g C) K = K (J (C b 1)) := by
  unfold PX1_size
  simp (disch := omega) only [J_add, J_sub, J_mul, J_lt, J_le, J_eq, xbr_true, xbr_false, xbr_pos, xbr_neg, Int.toNat_natCast, all_eq, ex_eq, tS_lay h.1, gI_lay h.2.1]
theorem s_bget {K : Int32 → Prop} (h : isBytes b N) (hl : 0 ≤ C b 1 ∧ C b 1 ≤ N) {i : Int} (h1 : -2147483648 ≤ i) (h2 : i < 2147483648) : PX1_get (ad z b) (J i) (lay z g C) K = K (J (if 0 ≤ i ∧ i < C b 1 then C (b + 1) i.toNat else -1)) := by
  have hN := h.le
  unfold PX1_get
  by_cases c1 : i < 0
  · simp (disch := omega) only [J_add, J_sub, J_mul, J_lt, J_le, J_eq, xbr_true, xbr_false, xbr_pos, xbr_neg, Int.toNat_natCast, all_eq, ex_eq, tS_lay h.1]
    rw [if_neg (by omega)]
  · by_cases c2 : i < C b 1
    · simp (disch := omega) only [J_add, J_sub, J_mul, J_lt, J_le, J_eq, xbr_true, xbr_false, xbr_pos, xbr_neg, Int.toNat_natCast, all_eq, ex_eq, tS_lay h.1, gI_lay h.2.1, gR_lay h.2.2.1, aL_lay h.2.2.2, aI_lay h.2.2.2]
      rw [if_pos (by omega)]
    · simp (disch := omega) only [J_add, J_sub, J_mul, J_lt, J_le, J_eq, xbr_true, xbr_false, xbr_pos, xbr_neg, Int.toNat_natCast, all_eq, ex_eq, tS_lay h.1, gI_lay h.2.1]
      rw [if_neg (by omega)]
theorem s_bapp {K : Mem → Prop} (h : isBytes b N) (hl : 0 ≤ C b 1 ∧ C b 1 < N) {v : Int} : PX1_append (ad z b) (J v) (lay z g C) K = K (lay z g (up (up C (b + 1) (C b 1).toNat v) b 1 (C b 1 + 1))) := by
  have hN := h.le
  have e : up C (b + 1) (C b 1).toNat v b 1 = C b 1 := by unfold up; rw [if_neg (by omega)]
  unfold PX1_append
  simp (disch := omega) only [J_add, J_sub, J_mul, J_lt, J_le, J_eq, xbr_true, xbr_false, xbr_pos, xbr_neg, Int.toNat_natCast, all_eq, ex_eq, tS_lay h.1, gI_lay h.2.1, gR_lay h.2.2.1, aL_lay h.2.2.2, aS_lay h.2.2.2, pF_lay h.2.1, e]
theorem s_bclear {K : Mem → Prop} (h : isBytes b N) : PX1_clear (ad z b) (lay z g C) K = K (lay z g (up C b 1 0)) := by
  unfold PX1_clear
  simp (disch := omega) only [J_add, J_sub, J_mul, J_lt, J_le, J_eq, xbr_true, xbr_false, xbr_pos, xbr_neg, Int.toNat_natCast, all_eq, ex_eq, tS_lay h.1, pF_lay h.2.1]
/-- byte k of a long -/
def byt (X : Int64) (k : Nat) : Nat := X.toBitVec.toNat / 2 ^ (8 * k) % 2 ^ 8
theorem byt_b (X : Int64) (k : Nat) : byt X k < 256 := Nat.mod_lt _ (by decide)
theorem LJ_255 {Y : Int64} {m : Nat} (hm : m < 256) (h : ∀ i, i < 8 → Y.toBitVec.getLsbD i = m.testBit i) : (Y &&& LJ 255).toInt32 = J (m : Int) := by
  have e : Y &&& LJ 255 = LJ (m : Int) := by
    apply Int64.toBitVec_inj.mp
    rw [Int64.toBitVec_and]
    show Y.toBitVec &&& BitVec.ofInt 64 ((255 : Nat) : Int) = BitVec.ofInt 64 (m : Int)
    rw [BitVec.ofInt_natCast, BitVec.ofInt_natCast]
    refine BitVec.eq_of_getLsbD_eq fun i hi => ?_
    rw [BitVec.getLsbD_and, BitVec.getLsbD_ofNat, BitVec.getLsbD_ofNat, show (255 : Nat) = 2 ^ 8 - 1 by decide, Nat.testBit_two_pow_sub_one]
    by_cases c : i < 8
    · rw [h i c]
      simp [hi, c]
    · have : m.testBit i = false := testBit_small (k := 8) (by simpa using hm) (by omega)
      simp [c, this]
  rw [e, LJ_int]
theorem byt_bit {X : Int64} {k i : Nat} (hi : i < 8) : (byt X k).testBit i = X.toBitVec.getLsbD (8 * k + i) := by
  unfold byt
  rw [Nat.testBit_mod_two_pow, Nat.testBit_div_two_pow]
  simp only [hi, decide_true, Bool.true_and]
  rw [Nat.add_comm]; rfl
theorem su64 : ∀ k, k < 8 → ((((J (8 * ((k : Nat) : Int))).toInt64.toUInt64 &&& Int64.toUInt64 63)).toBitVec % 64).toNat = 8 * k := by decide +kernel
theorem ss64 : ∀ k, k < 8 → ((((J (8 * ((k : Nat) : Int))).toInt64 &&& 63)).toBitVec.smod 64).toNat = 8 * k := by decide +kernel
theorem feedC {X : Int64} {k : Nat} (hk : k < 8) : ((X.toUInt64 >>> ((J (8 * ((k : Nat) : Int))).toInt64.toUInt64 &&& Int64.toUInt64 63)).toInt64 &&& LJ 255).toInt32 = J (byt X k : Nat) := by
  refine LJ_255 (byt_b X k) fun i hi => ?_
  show (X.toUInt64 >>> ((J (8 * ((k : Nat) : Int))).toInt64.toUInt64 &&& Int64.toUInt64 63)).toBitVec.getLsbD i = _
  rw [UInt64.toBitVec_shiftRight]
  show (X.toBitVec >>> ((((J (8 * ((k : Nat) : Int))).toInt64.toUInt64 &&& Int64.toUInt64 63)).toBitVec % 64).toNat).getLsbD i = _
  rw [su64 k hk, BitVec.getLsbD_ushiftRight, byt_bit hi]
theorem feedM {X : Int64} {k : Nat} (hk : k < 8) : ((X >>> ((J (8 * ((k : Nat) : Int))).toInt64 &&& 63)) &&& LJ 255).toInt32 = J (byt X k : Nat) := by
  refine LJ_255 (byt_b X k) fun i hi => ?_
  rw [Int64.toBitVec_shiftRight]
  show (X.toBitVec.sshiftRight ((((J (8 * ((k : Nat) : Int))).toInt64 &&& 63)).toBitVec.smod 64).toNat).getLsbD i = _
  rw [ss64 k hk, BitVec.getLsbD_sshiftRight, byt_bit hi]
  have : 8 * k + i < 64 := by omega
  simp [this, show ¬ 64 ≤ i by omega]
/-- j bytes of n behind a text of length l, at array a with its length at (o, p) -/
def fdC (C : Nat → Nat → Int) (a o p l n : Nat) (X : Int64) (j : Nat) : Nat → Nat → Int := fun x q => if x = o ∧ q = p then ((l + j : Nat) : Int) else if x = a ∧ l ≤ q ∧ q < l + j then (byt X (n - 1 - (q - l)) : Nat) else C x q
theorem fdC_ne {a o p l n j x : Nat} {X : Int64} (h : x ≠ o) (h2 : x ≠ a) : fdC C a o p l n X j x = C x := by
  funext q; unfold fdC; rw [if_neg (fun q => h q.1), if_neg (fun q => h2 q.1)]
theorem fdC_step {a o p l n j : Nat} {X : Int64} (h : a ≠ o) (hj : j < n) : up (up (fdC C a o p l n X j) a (l + j) (byt X (n - 1 - j) : Nat)) o p (((l + j : Nat) : Int) + 1) = fdC C a o p l n X (j + 1) := by
  funext x q
  simp only [up, fdC]
  by_cases c1 : x = o ∧ q = p
  · simp only [if_pos c1]; omega
  · simp only [if_neg c1]
    by_cases c2 : x = a ∧ q = l + j
    · rw [if_pos c2, if_pos (by omega), c2.2, show l + j - l = j by omega]
    · rw [if_neg c2]
      by_cases c3 : x = a ∧ l ≤ q ∧ q < l + j
      · rw [if_pos c3, if_pos (by omega)]
      · rw [if_neg c3, if_neg (by omega)]
theorem fdC_zero {a o p l n : Nat} {X : Int64} (h : C o p = l) : fdC C a o p l n X 0 = C := by
  funext x q
  unfold fdC
  by_cases c1 : x = o ∧ q = p
  · rw [if_pos c1, c1.1, c1.2, h]; rfl
  · rw [if_neg c1, if_neg (by omega)]
theorem s_feed39 {K : Int32 → Mem → Prop} {l n : Nat} {X : Int64} (hl : C 1 1 = l) (h1 : 1 ≤ n) (h2 : n ≤ 8) (h3 : l + n ≤ 600) : lp (BX10_feed_39 K (ad z 0) X) (lay z g C, J ((n : Int) - 1)) = K (J ((l + n : Nat) : Int)) (lay z g (fdC C 2 1 1 l n X n)) := by
  have e0 := fdC_zero (C := C) (a := 2) (o := 1) (p := 1) (n := n) (X := X) hl
  have st : (lay z g C, J ((n : Int) - 1)) = (fun j : Nat => (lay z g (fdC C 2 1 1 l n X j), J ((n : Int) - 1 - (j : Int)))) 0 := by
    show _ = (lay z g (fdC C 2 1 1 l n X 0), J ((n : Int) - 1 - ((0 : Nat) : Int)))
    rw [e0, show (n : Int) - 1 - ((0 : Nat) : Int) = (n : Int) - 1 by omega]
  rw [st]
  refine lp_for (fun j : Nat => (lay z g (fdC C 2 1 1 l n X j), J ((n : Int) - 1 - (j : Int)))) 0 n _ (by omega) ?_ ?_
  · intro j _ hj kc
    have el : fdC C 2 1 1 l n X j 1 1 = ((l + j : Nat) : Int) := by unfold fdC; rw [if_pos ⟨rfl, rfl⟩]
    have ek : (n : Int) - 1 - (j : Int) = ((n - 1 - j : Nat) : Int) := by omega
    unfold BX10_feed_39 CX10_feed_39
    simp only [ek]
    simp (disch := omega) only [J_add, J_sub, J_mul, J_lt, J_le, J_eq, xbr_true, xbr_false, xbr_pos, xbr_neg, Int.toNat_natCast, all_eq, ex_eq, t_0, q_0_0, q_0_1, q_0_2, q_0_3, q_0_4, q_0_5, q_0_6, q_0_7, q_0_8, q_0_9, i_0_10, p_0_10, i_0_11, p_0_11, i_0_12, p_0_12, t_1, q_1_0, t_3, q_3_0, q_3_1, i_3_2, p_3_2, i_3_3, p_3_3, t_80, q_80_0, t_88, q_88_0, t_90, q_90_0, t_92, q_92_0, q_92_1, q_92_2, i_92_3, p_92_3, i_92_4, p_92_4, t_96, q_96_0, i_96_1, p_96_1, i_96_2, p_96_2, i_96_3, p_96_3, t_100, q_100_0, i_100_1, p_100_1, i_100_2, p_100_2, i_100_3, p_100_3, t_104, q_104_1, q_104_2, q_104_3, q_104_4, q_104_5, q_104_6, q_104_8, q_104_9, q_104_11, q_104_12, q_104_18, q_104_21, q_104_22, q_104_23, q_104_24, q_104_26, q_104_27, q_104_28, q_104_30, q_104_31, i_104_0, p_104_0, i_104_7, p_104_7, i_104_10, p_104_10, i_104_13, p_104_13, i_104_14, p_104_14, i_104_15, p_104_15, i_104_16, p_104_16, i_104_17, p_104_17, i_104_19, p_104_19, i_104_20, p_104_20, i_104_25, p_104_25, i_104_29, p_104_29, a_2, w_2, a_81, w_81, a_89, w_89, a_91, w_91, a_93, w_93, a_94, w_94, a_95, w_95, a_105, w_105, a_106, w_106, a_107, w_107, a_108, w_108, a_109, w_109, a_110, w_110, a_111, w_111, a_112, w_112, a_113, w_113, a_114, w_114, a_115, w_115, a_116, w_116, a_117, w_117, a_118, w_118, a_119, w_119, a_120, w_120, a_121, w_121, a_122, w_122, a_123, w_123, a_124, w_124, feedC (X := X) (show n - 1 - j < 8 by omega), s_bapp text_B, el]
    rw [fdC_step (by omega) hj, show ((n - 1 - j : Nat) : Int) + -1 = (n : Int) - 1 - ((j + 1 : Nat) : Int) by omega]
  · intro kc
    have el : fdC C 2 1 1 l n X n 1 1 = ((l + n : Nat) : Int) := by unfold fdC; rw [if_pos ⟨rfl, rfl⟩]
    unfold BX10_feed_39 CX10_feed_39
    simp (disch := omega) only [J_add, J_sub, J_mul, J_lt, J_le, J_eq, xbr_true, xbr_false, xbr_pos, xbr_neg, Int.toNat_natCast, all_eq, ex_eq, t_0, q_0_0, q_0_1, q_0_2, q_0_3, q_0_4, q_0_5, q_0_6, q_0_7, q_0_8, q_0_9, i_0_10, p_0_10, i_0_11, p_0_11, i_0_12, p_0_12, t_1, q_1_0, t_3, q_3_0, q_3_1, i_3_2, p_3_2, i_3_3, p_3_3, t_80, q_80_0, t_88, q_88_0, t_90, q_90_0, t_92, q_92_0, q_92_1, q_92_2, i_92_3, p_92_3, i_92_4, p_92_4, t_96, q_96_0, i_96_1, p_96_1, i_96_2, p_96_2, i_96_3, p_96_3, t_100, q_100_0, i_100_1, p_100_1, i_100_2, p_100_2, i_100_3, p_100_3, t_104, q_104_1, q_104_2, q_104_3, q_104_4, q_104_5, q_104_6, q_104_8, q_104_9, q_104_11, q_104_12, q_104_18, q_104_21, q_104_22, q_104_23, q_104_24, q_104_26, q_104_27, q_104_28, q_104_30, q_104_31, i_104_0, p_104_0, i_104_7, p_104_7, i_104_10, p_104_10, i_104_13, p_104_13, i_104_14, p_104_14, i_104_15, p_104_15, i_104_16, p_104_16, i_104_17, p_104_17, i_104_19, p_104_19, i_104_20, p_104_20, i_104_25, p_104_25, i_104_29, p_104_29, a_2, w_2, a_81, w_81, a_89, w_89, a_91, w_91, a_93, w_93, a_94, w_94, a_95, w_95, a_105, w_105, a_106, w_106, a_107, w_107, a_108, w_108, a_109, w_109, a_110, w_110, a_111, w_111, a_112, w_112, a_113, w_113, a_114, w_114, a_115, w_115, a_116, w_116, a_117, w_117, a_118, w_118, a_119, w_119, a_120, w_120, a_121, w_121, a_122, w_122, a_123, w_123, a_124, w_124, s_bsize text_B, el]
theorem m_feed37 {K : Int32 → Mem → Prop} {l n : Nat} {X : Int64} (hl : C 104 13 = l) (h1 : 1 ≤ n) (h2 : n ≤ 8) (h3 : l + n ≤ 600) : lp (BX11_feed_37 K (ad z 104) X) (lay z g C, J ((n : Int) - 1)) = K (J ((l + n : Nat) : Int)) (lay z g (fdC C 114 104 13 l n X n)) := by
  have e0 := fdC_zero (C := C) (a := 114) (o := 104) (p := 13) (n := n) (X := X) hl
  have st : (lay z g C, J ((n : Int) - 1)) = (fun j : Nat => (lay z g (fdC C 114 104 13 l n X j), J ((n : Int) - 1 - (j : Int)))) 0 := by
    show _ = (lay z g (fdC C 114 104 13 l n X 0), J ((n : Int) - 1 - ((0 : Nat) : Int)))
    rw [e0, show (n : Int) - 1 - ((0 : Nat) : Int) = (n : Int) - 1 by omega]
  rw [st]
  refine lp_for (fun j : Nat => (lay z g (fdC C 114 104 13 l n X j), J ((n : Int) - 1 - (j : Int)))) 0 n _ (by omega) ?_ ?_
  · intro j _ hj kc
    have el : fdC C 114 104 13 l n X j 104 13 = ((l + j : Nat) : Int) := by unfold fdC; rw [if_pos ⟨rfl, rfl⟩]
    have el2 : up (fdC C 114 104 13 l n X j) 114 (l + j) (byt X (n - 1 - j) : Nat) 104 13 = ((l + j : Nat) : Int) := by rw [up_ne (by omega)]; exact el
    have ek : (n : Int) - 1 - (j : Int) = ((n - 1 - j : Nat) : Int) := by omega
    unfold BX11_feed_37 CX11_feed_37
    simp only [ek]
    simp (disch := omega) only [J_add, J_sub, J_mul, J_lt, J_le, J_eq, xbr_true, xbr_false, xbr_pos, xbr_neg, Int.toNat_natCast, all_eq, ex_eq, t_0, q_0_0, q_0_1, q_0_2, q_0_3, q_0_4, q_0_5, q_0_6, q_0_7, q_0_8, q_0_9, i_0_10, p_0_10, i_0_11, p_0_11, i_0_12, p_0_12, t_1, q_1_0, t_3, q_3_0, q_3_1, i_3_2, p_3_2, i_3_3, p_3_3, t_80, q_80_0, t_88, q_88_0, t_90, q_90_0, t_92, q_92_0, q_92_1, q_92_2, i_92_3, p_92_3, i_92_4, p_92_4, t_96, q_96_0, i_96_1, p_96_1, i_96_2, p_96_2, i_96_3, p_96_3, t_100, q_100_0, i_100_1, p_100_1, i_100_2, p_100_2, i_100_3, p_100_3, t_104, q_104_1, q_104_2, q_104_3, q_104_4, q_104_5, q_104_6, q_104_8, q_104_9, q_104_11, q_104_12, q_104_18, q_104_21, q_104_22, q_104_23, q_104_24, q_104_26, q_104_27, q_104_28, q_104_30, q_104_31, i_104_0, p_104_0, i_104_7, p_104_7, i_104_10, p_104_10, i_104_13, p_104_13, i_104_14, p_104_14, i_104_15, p_104_15, i_104_16, p_104_16, i_104_17, p_104_17, i_104_19, p_104_19, i_104_20, p_104_20, i_104_25, p_104_25, i_104_29, p_104_29, a_2, w_2, a_81, w_81, a_89, w_89, a_91, w_91, a_93, w_93, a_94, w_94, a_95, w_95, a_105, w_105, a_106, w_106, a_107, w_107, a_108, w_108, a_109, w_109, a_110, w_110, a_111, w_111, a_112, w_112, a_113, w_113, a_114, w_114, a_115, w_115, a_116, w_116, a_117, w_117, a_118, w_118, a_119, w_119, a_120, w_120, a_121, w_121, a_122, w_122, a_123, w_123, a_124, w_124, feedM (X := X) (show n - 1 - j < 8 by omega), el, el2]
    rw [fdC_step (by omega) hj, show ((n - 1 - j : Nat) : Int) + -1 = (n : Int) - 1 - ((j + 1 : Nat) : Int) by omega]
  · intro kc
    have el : fdC C 114 104 13 l n X n 104 13 = ((l + n : Nat) : Int) := by unfold fdC; rw [if_pos ⟨rfl, rfl⟩]
    unfold BX11_feed_37 CX11_feed_37
    simp (disch := omega) only [J_add, J_sub, J_mul, J_lt, J_le, J_eq, xbr_true, xbr_false, xbr_pos, xbr_neg, Int.toNat_natCast, all_eq, ex_eq, t_0, q_0_0, q_0_1, q_0_2, q_0_3, q_0_4, q_0_5, q_0_6, q_0_7, q_0_8, q_0_9, i_0_10, p_0_10, i_0_11, p_0_11, i_0_12, p_0_12, t_1, q_1_0, t_3, q_3_0, q_3_1, i_3_2, p_3_2, i_3_3, p_3_3, t_80, q_80_0, t_88, q_88_0, t_90, q_90_0, t_92, q_92_0, q_92_1, q_92_2, i_92_3, p_92_3, i_92_4, p_92_4, t_96, q_96_0, i_96_1, p_96_1, i_96_2, p_96_2, i_96_3, p_96_3, t_100, q_100_0, i_100_1, p_100_1, i_100_2, p_100_2, i_100_3, p_100_3, t_104, q_104_1, q_104_2, q_104_3, q_104_4, q_104_5, q_104_6, q_104_8, q_104_9, q_104_11, q_104_12, q_104_18, q_104_21, q_104_22, q_104_23, q_104_24, q_104_26, q_104_27, q_104_28, q_104_30, q_104_31, i_104_0, p_104_0, i_104_7, p_104_7, i_104_10, p_104_10, i_104_13, p_104_13, i_104_14, p_104_14, i_104_15, p_104_15, i_104_16, p_104_16, i_104_17, p_104_17, i_104_19, p_104_19, i_104_20, p_104_20, i_104_25, p_104_25, i_104_29, p_104_29, a_2, w_2, a_81, w_81, a_89, w_89, a_91, w_91, a_93, w_93, a_94, w_94, a_95, w_95, a_105, w_105, a_106, w_106, a_107, w_107, a_108, w_108, a_109, w_109, a_110, w_110, a_111, w_111, a_112, w_112, a_113, w_113, a_114, w_114, a_115, w_115, a_116, w_116, a_117, w_117, a_118, w_118, a_119, w_119, a_120, w_120, a_121, w_121, a_122, w_122, a_123, w_123, a_124, w_124, el]
theorem op_feed (h : Inv C nb A) {n : Int} {X : Int64} (hn : -2147483648 ≤ n ∧ n < 2147483648) : ∃ (r : Int) (C1 C2 : Nat → Nat → Int), (∀ K, PX10_feed (ad z 0) (J n) X (lay z g C) K = K (J r) (lay z g C1)) ∧ (∀ K, PX11_feed (ad z 104) (J n) X (lay z g C1) K = K (J r) (lay z g C2)) ∧ Inv C2 nb A := by
  obtain ⟨⟨t1, t2⟩, t3, t4⟩ := h.1
  by_cases c : 1 ≤ n ∧ n ≤ 8
  · obtain ⟨m, rfl⟩ : ∃ m : Nat, n = m := ⟨n.toNat, by omega⟩
    obtain ⟨l, hl⟩ : ∃ l : Nat, C 1 1 = l := ⟨(C 1 1).toNat, by omega⟩
    rw [hl] at t1 t2 t3 t4
    by_cases c2 : l + m ≤ 600
    · obtain ⟨C1, hC1⟩ : ∃ C1, C1 = fdC C 2 1 1 l m X m := ⟨_, rfl⟩
      have f1 : ∀ a, a ≠ 1 → a ≠ 2 → C1 a = C a := fun a h1 h2 => by rw [hC1, fdC_ne h1 h2]
      have f13 : C1 104 13 = l := by rw [f1 _ (by omega) (by omega)]; exact t3
      obtain ⟨C2, hC2⟩ : ∃ C2, C2 = fdC C1 114 104 13 l m X m := ⟨_, rfl⟩
      have f2 : ∀ a, a ≠ 104 → a ≠ 114 → C2 a = C1 a := fun a h1 h2 => by rw [hC2, fdC_ne h1 h2]
      have f3 : ∀ j, j ≠ 13 → C2 104 j = C 104 j := fun j hj => by
        rw [hC2]; unfold fdC; rw [if_neg (fun q => hj q.2), if_neg (by omega), f1 _ (by omega) (by omega)]
      have e : ∀ a, a ≠ 1 → a ≠ 2 → a ≠ 104 → a ≠ 114 → C2 a = C a := fun a h1 h2 h3 h4 => by rw [f2 a h3 h4, f1 a h1 h2]
      refine ⟨((l + m : Nat) : Int), C1, C2, fun K => ?_, fun K => ?_, ?_⟩
      · unfold PX10_feed
        simp (disch := omega) only [J_add, J_sub, J_mul, J_lt, J_le, J_eq, xbr_true, xbr_false, xbr_pos, xbr_neg, Int.toNat_natCast, all_eq, ex_eq, t_0, q_0_0, q_0_1, q_0_2, q_0_3, q_0_4, q_0_5, q_0_6, q_0_7, q_0_8, q_0_9, i_0_10, p_0_10, i_0_11, p_0_11, i_0_12, p_0_12, t_1, q_1_0, t_3, q_3_0, q_3_1, i_3_2, p_3_2, i_3_3, p_3_3, t_80, q_80_0, t_88, q_88_0, t_90, q_90_0, t_92, q_92_0, q_92_1, q_92_2, i_92_3, p_92_3, i_92_4, p_92_4, t_96, q_96_0, i_96_1, p_96_1, i_96_2, p_96_2, i_96_3, p_96_3, t_100, q_100_0, i_100_1, p_100_1, i_100_2, p_100_2, i_100_3, p_100_3, t_104, q_104_1, q_104_2, q_104_3, q_104_4, q_104_5, q_104_6, q_104_8, q_104_9, q_104_11, q_104_12, q_104_18, q_104_21, q_104_22, q_104_23, q_104_24, q_104_26, q_104_27, q_104_28, q_104_30, q_104_31, i_104_0, p_104_0, i_104_7, p_104_7, i_104_10, p_104_10, i_104_13, p_104_13, i_104_14, p_104_14, i_104_15, p_104_15, i_104_16, p_104_16, i_104_17, p_104_17, i_104_19, p_104_19, i_104_20, p_104_20, i_104_25, p_104_25, i_104_29, p_104_29, a_2, w_2, a_81, w_81, a_89, w_89, a_91, w_91, a_93, w_93, a_94, w_94, a_95, w_95, a_105, w_105, a_106, w_106, a_107, w_107, a_108, w_108, a_109, w_109, a_110, w_110, a_111, w_111, a_112, w_112, a_113, w_113, a_114, w_114, a_115, w_115, a_116, w_116, a_117, w_117, a_118, w_118, a_119, w_119, a_120, w_120, a_121, w_121, a_122, w_122, a_123, w_123, a_124, w_124, s_bsize text_B, hl]
        rw [s_feed39 hl (by omega) (by omega) c2, hC1]
      · unfold PX11_feed
        simp (disch := omega) only [J_add, J_sub, J_mul, J_lt, J_le, J_eq, xbr_true, xbr_false, xbr_pos, xbr_neg, Int.toNat_natCast, all_eq, ex_eq, t_0, q_0_0, q_0_1, q_0_2, q_0_3, q_0_4, q_0_5, q_0_6, q_0_7, q_0_8, q_0_9, i_0_10, p_0_10, i_0_11, p_0_11, i_0_12, p_0_12, t_1, q_1_0, t_3, q_3_0, q_3_1, i_3_2, p_3_2, i_3_3, p_3_3, t_80, q_80_0, t_88, q_88_0, t_90, q_90_0, t_92, q_92_0, q_92_1, q_92_2, i_92_3, p_92_3, i_92_4, p_92_4, t_96, q_96_0, i_96_1, p_96_1, i_96_2, p_96_2, i_96_3, p_96_3, t_100, q_100_0, i_100_1, p_100_1, i_100_2, p_100_2, i_100_3, p_100_3, t_104, q_104_1, q_104_2, q_104_3, q_104_4, q_104_5, q_104_6, q_104_8, q_104_9, q_104_11, q_104_12, q_104_18, q_104_21, q_104_22, q_104_23, q_104_24, q_104_26, q_104_27, q_104_28, q_104_30, q_104_31, i_104_0, p_104_0, i_104_7, p_104_7, i_104_10, p_104_10, i_104_13, p_104_13, i_104_14, p_104_14, i_104_15, p_104_15, i_104_16, p_104_16, i_104_17, p_104_17, i_104_19, p_104_19, i_104_20, p_104_20, i_104_25, p_104_25, i_104_29, p_104_29, a_2, w_2, a_81, w_81, a_89, w_89, a_91, w_91, a_93, w_93, a_94, w_94, a_95, w_95, a_105, w_105, a_106, w_106, a_107, w_107, a_108, w_108, a_109, w_109, a_110, w_110, a_111, w_111, a_112, w_112, a_113, w_113, a_114, w_114, a_115, w_115, a_116, w_116, a_117, w_117, a_118, w_118, a_119, w_119, a_120, w_120, a_121, w_121, a_122, w_122, a_123, w_123, a_124, w_124, J_long, m_in, if_pos c, f13]
        rw [m_feed37 f13 (by omega) (by omega) c2, hC2]
      · obtain ⟨h1, h2, h3, h4, h5, h6, h7, h8, h9, h10, h11⟩ := h
        have v1 : C2 1 1 = ((l + m : Nat) : Int) := by rw [f2 _ (by omega) (by omega), hC1]; unfold fdC; rw [if_pos ⟨rfl, rfl⟩]
        have v2 : C2 104 13 = ((l + m : Nat) : Int) := by rw [hC2]; unfold fdC; rw [if_pos ⟨rfl, rfl⟩]
        refine ⟨⟨by rw [v1]; omega, by rw [v1, v2], fun i hi => ?_⟩, h2.fr (e _ (by omega) (by omega) (by omega) (by omega)) (f3 _ (by omega)) (fun a _ _ => e _ (by omega) (by omega) (by omega) (by omega)) (fun a _ _ => e _ (by omega) (by omega) (by omega) (by omega)), ?_, ?_, ?_, h6.fr (e _ (by omega) (by omega) (by omega) (by omega)) (e _ (by omega) (by omega) (by omega) (by omega)), h7.fr (fun a _ _ => e _ (by omega) (by omega) (by omega) (by omega)) (f3 _ (by omega)) (e _ (by omega) (by omega) (by omega) (by omega)) (e _ (by omega) (by omega) (by omega) (by omega)), h8.fr (e _ (by omega) (by omega) (by omega) (by omega)) (e _ (by omega) (by omega) (by omega) (by omega)) (e _ (by omega) (by omega) (by omega) (by omega)), h9.fr (e _ (by omega) (by omega) (by omega) (by omega)) (e _ (by omega) (by omega) (by omega) (by omega)), h10.fr (e _ (by omega) (by omega) (by omega) (by omega)) (fun a _ _ => e _ (by omega) (by omega) (by omega) (by omega)) (e _ (by omega) (by omega) (by omega) (by omega)) (e _ (by omega) (by omega) (by omega) (by omega)), h11.fr (e _ (by omega) (by omega) (by omega) (by omega)) (fun a _ _ => e _ (by omega) (by omega) (by omega) (by omega)) (e _ (by omega) (by omega) (by omega) (by omega)) (e _ (by omega) (by omega) (by omega) (by omega))⟩
        · rw [v1] at hi
          have w1 : C2 2 i = if l ≤ i then ((byt X (m - 1 - (i - l)) : Nat) : Int) else C 2 i := by
            rw [f2 _ (by omega) (by omega), hC1]
            unfold fdC
            rw [if_neg (by omega)]
            by_cases q : l ≤ i
            · rw [if_pos ⟨rfl, q, by omega⟩, if_pos q]
            · rw [if_neg (by omega), if_neg q]
          have w2 : C2 114 i = if l ≤ i then ((byt X (m - 1 - (i - l)) : Nat) : Int) else C 114 i := by
            rw [hC2]
            unfold fdC
            rw [if_neg (by omega)]
            by_cases q : l ≤ i
            · rw [if_pos ⟨rfl, q, by omega⟩, if_pos q]
            · rw [if_neg (by omega), if_neg q, f1 _ (by omega) (by omega)]
          rw [w1, w2]
          by_cases q : l ≤ i
          · rw [if_pos q, if_pos q]
            have := byt_b X (m - 1 - (i - l))
            omega
          · rw [if_neg q, if_neg q]
            exact t4 i (by omega)
        · unfold GFault at *
          rw [f3 _ (by omega), e _ (by omega) (by omega) (by omega) (by omega)]; exact h3
        · unfold GList at *
          rw [f3 _ (by omega), e _ (by omega) (by omega) (by omega) (by omega)]; exact h4
        · unfold GSeed at *
          rw [f3 _ (by omega), e _ (by omega) (by omega) (by omega) (by omega)]; exact h5
    · refine ⟨-1004, C, C, fun K => ?_, fun K => ?_, h⟩
      · unfold PX10_feed
        simp (disch := omega) only [J_add, J_sub, J_mul, J_lt, J_le, J_eq, xbr_true, xbr_false, xbr_pos, xbr_neg, Int.toNat_natCast, all_eq, ex_eq, t_0, q_0_0, q_0_1, q_0_2, q_0_3, q_0_4, q_0_5, q_0_6, q_0_7, q_0_8, q_0_9, i_0_10, p_0_10, i_0_11, p_0_11, i_0_12, p_0_12, t_1, q_1_0, t_3, q_3_0, q_3_1, i_3_2, p_3_2, i_3_3, p_3_3, t_80, q_80_0, t_88, q_88_0, t_90, q_90_0, t_92, q_92_0, q_92_1, q_92_2, i_92_3, p_92_3, i_92_4, p_92_4, t_96, q_96_0, i_96_1, p_96_1, i_96_2, p_96_2, i_96_3, p_96_3, t_100, q_100_0, i_100_1, p_100_1, i_100_2, p_100_2, i_100_3, p_100_3, t_104, q_104_1, q_104_2, q_104_3, q_104_4, q_104_5, q_104_6, q_104_8, q_104_9, q_104_11, q_104_12, q_104_18, q_104_21, q_104_22, q_104_23, q_104_24, q_104_26, q_104_27, q_104_28, q_104_30, q_104_31, i_104_0, p_104_0, i_104_7, p_104_7, i_104_10, p_104_10, i_104_13, p_104_13, i_104_14, p_104_14, i_104_15, p_104_15, i_104_16, p_104_16, i_104_17, p_104_17, i_104_19, p_104_19, i_104_20, p_104_20, i_104_25, p_104_25, i_104_29, p_104_29, a_2, w_2, a_81, w_81, a_89, w_89, a_91, w_91, a_93, w_93, a_94, w_94, a_95, w_95, a_105, w_105, a_106, w_106, a_107, w_107, a_108, w_108, a_109, w_109, a_110, w_110, a_111, w_111, a_112, w_112, a_113, w_113, a_114, w_114, a_115, w_115, a_116, w_116, a_117, w_117, a_118, w_118, a_119, w_119, a_120, w_120, a_121, w_121, a_122, w_122, a_123, w_123, a_124, w_124, s_bsize text_B, hl]
      · unfold PX11_feed
        simp (disch := omega) only [J_add, J_sub, J_mul, J_lt, J_le, J_eq, xbr_true, xbr_false, xbr_pos, xbr_neg, Int.toNat_natCast, all_eq, ex_eq, t_0, q_0_0, q_0_1, q_0_2, q_0_3, q_0_4, q_0_5, q_0_6, q_0_7, q_0_8, q_0_9, i_0_10, p_0_10, i_0_11, p_0_11, i_0_12, p_0_12, t_1, q_1_0, t_3, q_3_0, q_3_1, i_3_2, p_3_2, i_3_3, p_3_3, t_80, q_80_0, t_88, q_88_0, t_90, q_90_0, t_92, q_92_0, q_92_1, q_92_2, i_92_3, p_92_3, i_92_4, p_92_4, t_96, q_96_0, i_96_1, p_96_1, i_96_2, p_96_2, i_96_3, p_96_3, t_100, q_100_0, i_100_1, p_100_1, i_100_2, p_100_2, i_100_3, p_100_3, t_104, q_104_1, q_104_2, q_104_3, q_104_4, q_104_5, q_104_6, q_104_8, q_104_9, q_104_11, q_104_12, q_104_18, q_104_21, q_104_22, q_104_23, q_104_24, q_104_26, q_104_27, q_104_28, q_104_30, q_104_31, i_104_0, p_104_0, i_104_7, p_104_7, i_104_10, p_104_10, i_104_13, p_104_13, i_104_14, p_104_14, i_104_15, p_104_15, i_104_16, p_104_16, i_104_17, p_104_17, i_104_19, p_104_19, i_104_20, p_104_20, i_104_25, p_104_25, i_104_29, p_104_29, a_2, w_2, a_81, w_81, a_89, w_89, a_91, w_91, a_93, w_93, a_94, w_94, a_95, w_95, a_105, w_105, a_106, w_106, a_107, w_107, a_108, w_108, a_109, w_109, a_110, w_110, a_111, w_111, a_112, w_112, a_113, w_113, a_114, w_114, a_115, w_115, a_116, w_116, a_117, w_117, a_118, w_118, a_119, w_119, a_120, w_120, a_121, w_121, a_122, w_122, a_123, w_123, a_124, w_124, J_long, m_in, if_pos c, t3]
  · refine ⟨-1002, C, C, fun K => ?_, fun K => ?_, h⟩
    · unfold PX10_feed
      by_cases c2 : n < 1
      · simp (disch := omega) only [J_add, J_sub, J_mul, J_lt, J_le, J_eq, xbr_true, xbr_false, xbr_pos, xbr_neg, Int.toNat_natCast, all_eq, ex_eq, t_0, q_0_0, q_0_1, q_0_2, q_0_3, q_0_4, q_0_5, q_0_6, q_0_7, q_0_8, q_0_9, i_0_10, p_0_10, i_0_11, p_0_11, i_0_12, p_0_12, t_1, q_1_0, t_3, q_3_0, q_3_1, i_3_2, p_3_2, i_3_3, p_3_3, t_80, q_80_0, t_88, q_88_0, t_90, q_90_0, t_92, q_92_0, q_92_1, q_92_2, i_92_3, p_92_3, i_92_4, p_92_4, t_96, q_96_0, i_96_1, p_96_1, i_96_2, p_96_2, i_96_3, p_96_3, t_100, q_100_0, i_100_1, p_100_1, i_100_2, p_100_2, i_100_3, p_100_3, t_104, q_104_1, q_104_2, q_104_3, q_104_4, q_104_5, q_104_6, q_104_8, q_104_9, q_104_11, q_104_12, q_104_18, q_104_21, q_104_22, q_104_23, q_104_24, q_104_26, q_104_27, q_104_28, q_104_30, q_104_31, i_104_0, p_104_0, i_104_7, p_104_7, i_104_10, p_104_10, i_104_13, p_104_13, i_104_14, p_104_14, i_104_15, p_104_15, i_104_16, p_104_16, i_104_17, p_104_17, i_104_19, p_104_19, i_104_20, p_104_20, i_104_25, p_104_25, i_104_29, p_104_29, a_2, w_2, a_81, w_81, a_89, w_89, a_91, w_91, a_93, w_93, a_94, w_94, a_95, w_95, a_105, w_105, a_106, w_106, a_107, w_107, a_108, w_108, a_109, w_109, a_110, w_110, a_111, w_111, a_112, w_112, a_113, w_113, a_114, w_114, a_115, w_115, a_116, w_116, a_117, w_117, a_118, w_118, a_119, w_119, a_120, w_120, a_121, w_121, a_122, w_122, a_123, w_123, a_124, w_124]
      · simp (disch := omega) only [J_add, J_sub, J_mul, J_lt, J_le, J_eq, xbr_true, xbr_false, xbr_pos, xbr_neg, Int.toNat_natCast, all_eq, ex_eq, t_0, q_0_0, q_0_1, q_0_2, q_0_3, q_0_4, q_0_5, q_0_6, q_0_7, q_0_8, q_0_9, i_0_10, p_0_10, i_0_11, p_0_11, i_0_12, p_0_12, t_1, q_1_0, t_3, q_3_0, q_3_1, i_3_2, p_3_2, i_3_3, p_3_3, t_80, q_80_0, t_88, q_88_0, t_90, q_90_0, t_92, q_92_0, q_92_1, q_92_2, i_92_3, p_92_3, i_92_4, p_92_4, t_96, q_96_0, i_96_1, p_96_1, i_96_2, p_96_2, i_96_3, p_96_3, t_100, q_100_0, i_100_1, p_100_1, i_100_2, p_100_2, i_100_3, p_100_3, t_104, q_104_1, q_104_2, q_104_3, q_104_4, q_104_5, q_104_6, q_104_8, q_104_9, q_104_11, q_104_12, q_104_18, q_104_21, q_104_22, q_104_23, q_104_24, q_104_26, q_104_27, q_104_28, q_104_30, q_104_31, i_104_0, p_104_0, i_104_7, p_104_7, i_104_10, p_104_10, i_104_13, p_104_13, i_104_14, p_104_14, i_104_15, p_104_15, i_104_16, p_104_16, i_104_17, p_104_17, i_104_19, p_104_19, i_104_20, p_104_20, i_104_25, p_104_25, i_104_29, p_104_29, a_2, w_2, a_81, w_81, a_89, w_89, a_91, w_91, a_93, w_93, a_94, w_94, a_95, w_95, a_105, w_105, a_106, w_106, a_107, w_107, a_108, w_108, a_109, w_109, a_110, w_110, a_111, w_111, a_112, w_112, a_113, w_113, a_114, w_114, a_115, w_115, a_116, w_116, a_117, w_117, a_118, w_118, a_119, w_119, a_120, w_120, a_121, w_121, a_122, w_122, a_123, w_123, a_124, w_124]
    · unfold PX11_feed
      simp (disch := omega) only [J_add, J_sub, J_mul, J_lt, J_le, J_eq, xbr_true, xbr_false, xbr_pos, xbr_neg, Int.toNat_natCast, all_eq, ex_eq, t_0, q_0_0, q_0_1, q_0_2, q_0_3, q_0_4, q_0_5, q_0_6, q_0_7, q_0_8, q_0_9, i_0_10, p_0_10, i_0_11, p_0_11, i_0_12, p_0_12, t_1, q_1_0, t_3, q_3_0, q_3_1, i_3_2, p_3_2, i_3_3, p_3_3, t_80, q_80_0, t_88, q_88_0, t_90, q_90_0, t_92, q_92_0, q_92_1, q_92_2, i_92_3, p_92_3, i_92_4, p_92_4, t_96, q_96_0, i_96_1, p_96_1, i_96_2, p_96_2, i_96_3, p_96_3, t_100, q_100_0, i_100_1, p_100_1, i_100_2, p_100_2, i_100_3, p_100_3, t_104, q_104_1, q_104_2, q_104_3, q_104_4, q_104_5, q_104_6, q_104_8, q_104_9, q_104_11, q_104_12, q_104_18, q_104_21, q_104_22, q_104_23, q_104_24, q_104_26, q_104_27, q_104_28, q_104_30, q_104_31, i_104_0, p_104_0, i_104_7, p_104_7, i_104_10, p_104_10, i_104_13, p_104_13, i_104_14, p_104_14, i_104_15, p_104_15, i_104_16, p_104_16, i_104_17, p_104_17, i_104_19, p_104_19, i_104_20, p_104_20, i_104_25, p_104_25, i_104_29, p_104_29, a_2, w_2, a_81, w_81, a_89, w_89, a_91, w_91, a_93, w_93, a_94, w_94, a_95, w_95, a_105, w_105, a_106, w_106, a_107, w_107, a_108, w_108, a_109, w_109, a_110, w_110, a_111, w_111, a_112, w_112, a_113, w_113, a_114, w_114, a_115, w_115, a_116, w_116, a_117, w_117, a_118, w_118, a_119, w_119, a_120, w_120, a_121, w_121, a_122, w_122, a_123, w_123, a_124, w_124, J_long, m_in, if_neg c]
end BYT
