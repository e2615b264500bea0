/-! SHELVING by draws -/
theorem lp_last {S : Type} {body : (S → Prop) → S → Prop} {s : S} {X : Prop} (h : ∀ kc, body kc s = X) : lp body s = X := lp_for (fun _ : Nat => s) 0 0 X (Nat.le_refl _) (fun i _ hi => absurd hi (Nat.not_lt_zero _)) h
theorem LJ_and (n m : Nat) : LJ (n : Int) &&& LJ (m : Int) = LJ ((n &&& m : Nat) : Int) := by
  apply Int64.toBitVec_inj.mp
  rw [Int64.toBitVec_and]
  show BitVec.ofInt 64 (n : Int) &&& BitVec.ofInt 64 (m : Int) = BitVec.ofInt 64 ((n &&& m : Nat) : Int)
  rw [BitVec.ofInt_natCast, BitVec.ofInt_natCast, BitVec.ofInt_natCast]
  exact BitVec.eq_of_getLsbD_eq fun i hi => by
    rw [BitVec.getLsbD_and, BitVec.getLsbD_ofNat, BitVec.getLsbD_ofNat, BitVec.getLsbD_ofNat, Nat.testBit_and]
    simp [hi]
theorem LJ_mask {a : Int} (h : 0 ≤ a) : LJ a &&& LJ 2147483647 = LJ (a % 2147483648) := by
  obtain ⟨n, rfl⟩ : ∃ n : Nat, a = n := ⟨a.toNat, by omega⟩
  have e := LJ_and n 2147483647
  rw [show ((2147483647 : Nat) : Int) = 2147483647 from rfl] at e
  rw [e, show (2147483647 : Nat) = 2 ^ 31 - 1 by decide, Nat.and_two_pow_sub_one_eq_mod]
  congr 1
section SHV
variable {z : Nat} {g : Mem} {C C' D : Nat → Nat → Int} {nb : Nat} {A A' : Rw} {K : Int32 → Prop}
def ns (s : Int) : Int := (s * 1103515245 + 12345) % 2147483648
def drw (s T : Int) : Int := s / 65536 - s / 65536 / T * T
def rdOf (H : Nat → Int) (d : Int) : Nat := fst1 5 (fun k => decide (d < sumZ H (k + 1)))
theorem ns_b (s : Int) : 0 ≤ ns s ∧ ns s < 2147483648 := by unfold ns; omega
theorem drw_b {s T : Int} (h : 0 ≤ s) (hT : 0 < T) : 0 ≤ drw s T ∧ drw s T < T := by
  have e : drw s T = (s / 65536) % T := by
    unfold drw
    rw [Int.emod_def, Int.mul_comm T]
  rw [e]
  exact ⟨Int.emod_nonneg _ (by omega), Int.emod_lt_of_pos _ hT⟩
theorem rdOf_lt {H : Nat → Int} {d : Int} (h : d < sumZ H 5) : rdOf H d < 5 := by
  rcases Nat.lt_or_ge (rdOf H d) 5 with c | c
  · exact c
  · have := fst1_lt (n := 5) (f := fun k => decide (d < sumZ H (k + 1))) (i := 4) (by unfold rdOf at c; omega)
    simp at this
    omega
theorem sumZ_mono {H : Nat → Int} (hh : ∀ k, k < 5 → 0 ≤ H k ∧ H k ≤ 99) {n : Nat} (hn : n < 5) : sumZ H n ≤ sumZ H (n + 1) := by
  have := hh n hn
  show _ ≤ sumZ H n + H n
  omega
theorem s_draw {T : Int} (hT : 0 < T) (hT2 : T < 2147483648) (hs : 0 ≤ C 0 12 ∧ C 0 12 < 2147483648) {K : Int32 → Mem → Prop} : PX10_draw (ad z 0) (J T) (lay z g C) K = K (J (drw (ns (C 0 12)) T)) (lay z g (up C 0 12 (ns (C 0 12)))) := by
  have b := ns_b (C 0 12)
  have e : ((((J (C 0 12)).toInt64 * LJ 1103515245 + LJ 12345) &&& LJ 2147483647).toInt32) = J (ns (C 0 12)) := by
    rw [J_long (by omega) (by omega), LJ_mul, LJ_add, LJ_mask (by omega), LJ_int]; rfl
  unfold PX10_draw
  simp (disch := omega) only [J_add, J_sub, J_mul, J_lt, J_le, J_eq, xbr_true, xbr_false, xbr_pos, xbr_neg, Int.toNat_natCast, all_eq, ex_eq, t_0, q_0_0, q_0_1, q_0_2, q_0_3, q_0_4, q_0_5, q_0_6, q_0_7, q_0_8, q_0_9, i_0_10, p_0_10, i_0_11, p_0_11, i_0_12, p_0_12, t_1, q_1_0, t_3, q_3_0, q_3_1, i_3_2, p_3_2, i_3_3, p_3_3, t_80, q_80_0, t_88, q_88_0, t_90, q_90_0, t_92, q_92_0, q_92_1, q_92_2, i_92_3, p_92_3, i_92_4, p_92_4, t_96, q_96_0, i_96_1, p_96_1, i_96_2, p_96_2, i_96_3, p_96_3, t_100, q_100_0, i_100_1, p_100_1, i_100_2, p_100_2, i_100_3, p_100_3, t_104, q_104_1, q_104_2, q_104_3, q_104_4, q_104_5, q_104_6, q_104_8, q_104_9, q_104_11, q_104_12, q_104_18, q_104_21, q_104_22, q_104_23, q_104_24, q_104_26, q_104_27, q_104_28, q_104_30, q_104_31, i_104_0, p_104_0, i_104_7, p_104_7, i_104_10, p_104_10, i_104_13, p_104_13, i_104_14, p_104_14, i_104_15, p_104_15, i_104_16, p_104_16, i_104_17, p_104_17, i_104_19, p_104_19, i_104_20, p_104_20, i_104_25, p_104_25, i_104_29, p_104_29, a_2, w_2, a_81, w_81, a_89, w_89, a_91, w_91, a_93, w_93, a_94, w_94, a_95, w_95, a_105, w_105, a_106, w_106, a_107, w_107, a_108, w_108, a_109, w_109, a_110, w_110, a_111, w_111, a_112, w_112, a_113, w_113, a_114, w_114, a_115, w_115, a_116, w_116, a_117, w_117, a_118, w_118, a_119, w_119, a_120, w_120, a_121, w_121, a_122, w_122, a_123, w_123, a_124, w_124, e]
  rw [up_eq]
  have b2 : 0 ≤ ns (C 0 12) / 65536 := by omega
  have b3 : ns (C 0 12) / 65536 < 2147483648 := by omega
  simp (disch := omega) only [J_add, J_sub, J_mul, J_lt, J_le, J_eq, xbr_true, xbr_false, xbr_pos, xbr_neg, Int.toNat_natCast, all_eq, ex_eq, J_div, J_ne0, true_and]
  rfl
theorem m_draw {T : Int} (hT : 0 < T) (hT2 : T < 2147483648) (hs : 0 ≤ C 104 29 ∧ C 104 29 < 2147483648) {K : Int32 → Mem → Prop} : PX11_draw (ad z 104) (J T) (lay z g C) K = K (J (drw (ns (C 104 29)) T)) (lay z g (up C 104 29 (ns (C 104 29)))) := by
  have b := ns_b (C 104 29)
  have e : ((((J (C 104 29)).toInt64 * LJ 1103515245 + LJ 12345) - ((J (C 104 29)).toInt64 * LJ 1103515245 + LJ 12345) / LJ 2147483648 * LJ 2147483648).toInt32) = J (ns (C 104 29)) := by
    rw [J_long (by omega) (by omega), LJ_mul, LJ_add, LJ_div (by omega) (by omega) (by omega) (by omega), LJ_mul, LJ_sub, LJ_int]
    congr 1
    unfold ns
    omega
  unfold PX11_draw
  simp (disch := omega) only [J_add, J_sub, J_mul, J_lt, J_le, J_eq, xbr_true, xbr_false, xbr_pos, xbr_neg, Int.toNat_natCast, all_eq, ex_eq, t_0, q_0_0, q_0_1, q_0_2, q_0_3, q_0_4, q_0_5, q_0_6, q_0_7, q_0_8, q_0_9, i_0_10, p_0_10, i_0_11, p_0_11, i_0_12, p_0_12, t_1, q_1_0, t_3, q_3_0, q_3_1, i_3_2, p_3_2, i_3_3, p_3_3, t_80, q_80_0, t_88, q_88_0, t_90, q_90_0, t_92, q_92_0, q_92_1, q_92_2, i_92_3, p_92_3, i_92_4, p_92_4, t_96, q_96_0, i_96_1, p_96_1, i_96_2, p_96_2, i_96_3, p_96_3, t_100, q_100_0, i_100_1, p_100_1, i_100_2, p_100_2, i_100_3, p_100_3, t_104, q_104_1, q_104_2, q_104_3, q_104_4, q_104_5, q_104_6, q_104_8, q_104_9, q_104_11, q_104_12, q_104_18, q_104_21, q_104_22, q_104_23, q_104_24, q_104_26, q_104_27, q_104_28, q_104_30, q_104_31, i_104_0, p_104_0, i_104_7, p_104_7, i_104_10, p_104_10, i_104_13, p_104_13, i_104_14, p_104_14, i_104_15, p_104_15, i_104_16, p_104_16, i_104_17, p_104_17, i_104_19, p_104_19, i_104_20, p_104_20, i_104_25, p_104_25, i_104_29, p_104_29, a_2, w_2, a_81, w_81, a_89, w_89, a_91, w_91, a_93, w_93, a_94, w_94, a_95, w_95, a_105, w_105, a_106, w_106, a_107, w_107, a_108, w_108, a_109, w_109, a_110, w_110, a_111, w_111, a_112, w_112, a_113, w_113, a_114, w_114, a_115, w_115, a_116, w_116, a_117, w_117, a_118, w_118, a_119, w_119, a_120, w_120, a_121, w_121, a_122, w_122, a_123, w_123, a_124, w_124, e]
  rw [up_eq]
  have b2 : 0 ≤ ns (C 104 29) / 65536 := by omega
  have b3 : ns (C 104 29) / 65536 < 2147483648 := by omega
  simp (disch := omega) only [J_add, J_sub, J_mul, J_lt, J_le, J_eq, xbr_true, xbr_false, xbr_pos, xbr_neg, Int.toNat_natCast, all_eq, ex_eq, J_div, J_ne0, true_and]
  rfl
theorem s_readingOf (hh : ∀ k, k < 5 → 0 ≤ C 91 k ∧ C 91 k ≤ 99) {d : Int} (h0 : 0 ≤ d) (h1 : d < sumZ (C 91) 5) : PX3_readingOf (ad z 90) (J d) (lay z g C) K = K (J (rdOf (C 91) d : Nat)) := by
  have hl := rdOf_lt h1
  have hT := sumZ_h hh
  unfold PX3_readingOf
  simp (disch := omega) only [J_add, J_sub, J_mul, J_lt, J_le, J_eq, xbr_true, xbr_false, xbr_pos, xbr_neg, Int.toNat_natCast, all_eq, ex_eq, t_0, q_0_0, q_0_1, q_0_2, q_0_3, q_0_4, q_0_5, q_0_6, q_0_7, q_0_8, q_0_9, i_0_10, p_0_10, i_0_11, p_0_11, i_0_12, p_0_12, t_1, q_1_0, t_3, q_3_0, q_3_1, i_3_2, p_3_2, i_3_3, p_3_3, t_80, q_80_0, t_88, q_88_0, t_90, q_90_0, t_92, q_92_0, q_92_1, q_92_2, i_92_3, p_92_3, i_92_4, p_92_4, t_96, q_96_0, i_96_1, p_96_1, i_96_2, p_96_2, i_96_3, p_96_3, t_100, q_100_0, i_100_1, p_100_1, i_100_2, p_100_2, i_100_3, p_100_3, t_104, q_104_1, q_104_2, q_104_3, q_104_4, q_104_5, q_104_6, q_104_8, q_104_9, q_104_11, q_104_12, q_104_18, q_104_21, q_104_22, q_104_23, q_104_24, q_104_26, q_104_27, q_104_28, q_104_30, q_104_31, i_104_0, p_104_0, i_104_7, p_104_7, i_104_10, p_104_10, i_104_13, p_104_13, i_104_14, p_104_14, i_104_15, p_104_15, i_104_16, p_104_16, i_104_17, p_104_17, i_104_19, p_104_19, i_104_20, p_104_20, i_104_25, p_104_25, i_104_29, p_104_29, a_2, w_2, a_81, w_81, a_89, w_89, a_91, w_91, a_93, w_93, a_94, w_94, a_95, w_95, a_105, w_105, a_106, w_106, a_107, w_107, a_108, w_108, a_109, w_109, a_110, w_110, a_111, w_111, a_112, w_112, a_113, w_113, a_114, w_114, a_115, w_115, a_116, w_116, a_117, w_117, a_118, w_118, a_119, w_119, a_120, w_120, a_121, w_121, a_122, w_122, a_123, w_123, a_124, w_124]
  refine lp_for (fun i : Nat => (J (sumZ (C 91) i), J (i : Int))) 0 (rdOf (C 91) d) _ (by omega) ?_ ?_
  · intro i _ hi kc
    have h6 := fst1_lt (n := 5) (f := fun k => decide (d < sumZ (C 91) (k + 1))) (i := i) hi
    have h7 : ¬ d < sumZ (C 91) (i + 1) := by simpa using h6
    have hb := sumZ_h (f := C 91) (n := i + 1) (fun k hk => hh k (by omega))
    have hb2 : sumZ (C 91) (i + 1) = sumZ (C 91) i + C 91 i := rfl
    have hc := hh i (by omega)
    unfold BX3_readingOf_4 CX3_readingOf_4 PX3_weight
    simp (disch := omega) only [J_add, J_sub, J_mul, J_lt, J_le, J_eq, xbr_true, xbr_false, xbr_pos, xbr_neg, Int.toNat_natCast, all_eq, ex_eq, t_0, q_0_0, q_0_1, q_0_2, q_0_3, q_0_4, q_0_5, q_0_6, q_0_7, q_0_8, q_0_9, i_0_10, p_0_10, i_0_11, p_0_11, i_0_12, p_0_12, t_1, q_1_0, t_3, q_3_0, q_3_1, i_3_2, p_3_2, i_3_3, p_3_3, t_80, q_80_0, t_88, q_88_0, t_90, q_90_0, t_92, q_92_0, q_92_1, q_92_2, i_92_3, p_92_3, i_92_4, p_92_4, t_96, q_96_0, i_96_1, p_96_1, i_96_2, p_96_2, i_96_3, p_96_3, t_100, q_100_0, i_100_1, p_100_1, i_100_2, p_100_2, i_100_3, p_100_3, t_104, q_104_1, q_104_2, q_104_3, q_104_4, q_104_5, q_104_6, q_104_8, q_104_9, q_104_11, q_104_12, q_104_18, q_104_21, q_104_22, q_104_23, q_104_24, q_104_26, q_104_27, q_104_28, q_104_30, q_104_31, i_104_0, p_104_0, i_104_7, p_104_7, i_104_10, p_104_10, i_104_13, p_104_13, i_104_14, p_104_14, i_104_15, p_104_15, i_104_16, p_104_16, i_104_17, p_104_17, i_104_19, p_104_19, i_104_20, p_104_20, i_104_25, p_104_25, i_104_29, p_104_29, a_2, w_2, a_81, w_81, a_89, w_89, a_91, w_91, a_93, w_93, a_94, w_94, a_95, w_95, a_105, w_105, a_106, w_106, a_107, w_107, a_108, w_108, a_109, w_109, a_110, w_110, a_111, w_111, a_112, w_112, a_113, w_113, a_114, w_114, a_115, w_115, a_116, w_116, a_117, w_117, a_118, w_118, a_119, w_119, a_120, w_120, a_121, w_121, a_122, w_122, a_123, w_123, a_124, w_124, s_entry (o := 91) (N := 5) rfl, if_pos (show 0 ≤ (i : Int) ∧ (i : Int) < ((5 : Nat) : Int) by omega)]
    rfl
  · intro kc
    have h6 := fst1_at (n := 5) (f := fun k => decide (d < sumZ (C 91) (k + 1))) hl
    generalize hi : rdOf (C 91) d = i at *
    have h6' : decide (d < sumZ (C 91) (i + 1)) = true := by rw [← hi]; exact h6
    have h7 : d < sumZ (C 91) (i + 1) := by simpa using h6'
    have hb := sumZ_h (f := C 91) (n := i + 1) (fun k hk => hh k (by omega))
    have hb3 := sumZ_h (f := C 91) (n := i) (fun k hk => hh k (by omega))
    have hb2 : sumZ (C 91) (i + 1) = sumZ (C 91) i + C 91 i := rfl
    have hc := hh i (by omega)
    unfold BX3_readingOf_4 CX3_readingOf_4 PX3_weight
    simp (disch := omega) only [J_add, J_sub, J_mul, J_lt, J_le, J_eq, xbr_true, xbr_false, xbr_pos, xbr_neg, Int.toNat_natCast, all_eq, ex_eq, t_0, q_0_0, q_0_1, q_0_2, q_0_3, q_0_4, q_0_5, q_0_6, q_0_7, q_0_8, q_0_9, i_0_10, p_0_10, i_0_11, p_0_11, i_0_12, p_0_12, t_1, q_1_0, t_3, q_3_0, q_3_1, i_3_2, p_3_2, i_3_3, p_3_3, t_80, q_80_0, t_88, q_88_0, t_90, q_90_0, t_92, q_92_0, q_92_1, q_92_2, i_92_3, p_92_3, i_92_4, p_92_4, t_96, q_96_0, i_96_1, p_96_1, i_96_2, p_96_2, i_96_3, p_96_3, t_100, q_100_0, i_100_1, p_100_1, i_100_2, p_100_2, i_100_3, p_100_3, t_104, q_104_1, q_104_2, q_104_3, q_104_4, q_104_5, q_104_6, q_104_8, q_104_9, q_104_11, q_104_12, q_104_18, q_104_21, q_104_22, q_104_23, q_104_24, q_104_26, q_104_27, q_104_28, q_104_30, q_104_31, i_104_0, p_104_0, i_104_7, p_104_7, i_104_10, p_104_10, i_104_13, p_104_13, i_104_14, p_104_14, i_104_15, p_104_15, i_104_16, p_104_16, i_104_17, p_104_17, i_104_19, p_104_19, i_104_20, p_104_20, i_104_25, p_104_25, i_104_29, p_104_29, a_2, w_2, a_81, w_81, a_89, w_89, a_91, w_91, a_93, w_93, a_94, w_94, a_95, w_95, a_105, w_105, a_106, w_106, a_107, w_107, a_108, w_108, a_109, w_109, a_110, w_110, a_111, w_111, a_112, w_112, a_113, w_113, a_114, w_114, a_115, w_115, a_116, w_116, a_117, w_117, a_118, w_118, a_119, w_119, a_120, w_120, a_121, w_121, a_122, w_122, a_123, w_123, a_124, w_124, s_entry (o := 91) (N := 5) rfl, if_pos (show 0 ≤ (i : Int) ∧ (i : Int) < ((5 : Nat) : Int) by omega)]
theorem m_drawReading {K : Int32 → Mem → Prop} (hh : ∀ k, k < 5 → 0 ≤ C 113 k ∧ C 113 k ≤ 99) (hT : 0 < sumZ (C 113) 5) (hs : 0 ≤ C 104 29 ∧ C 104 29 < 2147483648) : PX11_drawReading (ad z 104) (lay z g C) K = K (J (rdOf (C 113) (drw (ns (C 104 29)) (sumZ (C 113) 5)) : Nat)) (lay z g (up C 104 29 (ns (C 104 29)))) := by
  have hT2 := sumZ_h hh
  obtain ⟨d0, d1⟩ := drw_b (s := ns (C 104 29)) (ns_b _).1 hT
  have md := fun K => m_draw (z := z) (g := g) (C := C) (K := K) hT (by omega) hs
  generalize ns (C 104 29) = s at *
  generalize hd : drw s (sumZ (C 113) 5) = d at *
  have hl := rdOf_lt d1
  unfold PX11_drawReading
  simp (disch := omega) only [J_add, J_sub, J_mul, J_lt, J_le, J_eq, xbr_true, xbr_false, xbr_pos, xbr_neg, Int.toNat_natCast, all_eq, ex_eq, t_0, q_0_0, q_0_1, q_0_2, q_0_3, q_0_4, q_0_5, q_0_6, q_0_7, q_0_8, q_0_9, i_0_10, p_0_10, i_0_11, p_0_11, i_0_12, p_0_12, t_1, q_1_0, t_3, q_3_0, q_3_1, i_3_2, p_3_2, i_3_3, p_3_3, t_80, q_80_0, t_88, q_88_0, t_90, q_90_0, t_92, q_92_0, q_92_1, q_92_2, i_92_3, p_92_3, i_92_4, p_92_4, t_96, q_96_0, i_96_1, p_96_1, i_96_2, p_96_2, i_96_3, p_96_3, t_100, q_100_0, i_100_1, p_100_1, i_100_2, p_100_2, i_100_3, p_100_3, t_104, q_104_1, q_104_2, q_104_3, q_104_4, q_104_5, q_104_6, q_104_8, q_104_9, q_104_11, q_104_12, q_104_18, q_104_21, q_104_22, q_104_23, q_104_24, q_104_26, q_104_27, q_104_28, q_104_30, q_104_31, i_104_0, p_104_0, i_104_7, p_104_7, i_104_10, p_104_10, i_104_13, p_104_13, i_104_14, p_104_14, i_104_15, p_104_15, i_104_16, p_104_16, i_104_17, p_104_17, i_104_19, p_104_19, i_104_20, p_104_20, i_104_25, p_104_25, i_104_29, p_104_29, a_2, w_2, a_81, w_81, a_89, w_89, a_91, w_91, a_93, w_93, a_94, w_94, a_95, w_95, a_105, w_105, a_106, w_106, a_107, w_107, a_108, w_108, a_109, w_109, a_110, w_110, a_111, w_111, a_112, w_112, a_113, w_113, a_114, w_114, a_115, w_115, a_116, w_116, a_117, w_117, a_118, w_118, a_119, w_119, a_120, w_120, a_121, w_121, a_122, w_122, a_123, w_123, a_124, w_124, m_allHabits hh, md]
  rw [up_ne (a := 113) (by omega)]
  have st : ((J 0, J (C 113 (Int.toNat 0))) : Int32 × Int32) = (fun i : Nat => (J (i : Int), J (sumZ (C 113) (i + 1)))) 0 := by
    show _ = (J _, J (sumZ (C 113) 0 + C 113 0))
    rw [show sumZ (C 113) 0 = 0 from rfl, Int.zero_add]; rfl
  rw [st]
  refine lp_for (fun i : Nat => (J (i : Int), J (sumZ (C 113) (i + 1)))) 0 (rdOf (C 113) d) _ (by omega) ?_ ?_
  · intro i _ hi kc
    have h6 := fst1_lt (n := 5) (f := fun k => decide (d < sumZ (C 113) (k + 1))) (i := i) hi
    have h7 : ¬ d < sumZ (C 113) (i + 1) := by simpa using h6
    have hb := sumZ_h (f := C 113) (n := i + 1) (fun k hk => hh k (by omega))
    have t1 : ((i : Int) + 1).toNat = i + 1 := by omega
    unfold BX11_drawReading_18 CX11_drawReading_18
    simp (disch := omega) only [J_add, J_sub, J_mul, J_lt, J_le, J_eq, xbr_true, xbr_false, xbr_pos, xbr_neg, Int.toNat_natCast, all_eq, ex_eq, t_0, q_0_0, q_0_1, q_0_2, q_0_3, q_0_4, q_0_5, q_0_6, q_0_7, q_0_8, q_0_9, i_0_10, p_0_10, i_0_11, p_0_11, i_0_12, p_0_12, t_1, q_1_0, t_3, q_3_0, q_3_1, i_3_2, p_3_2, i_3_3, p_3_3, t_80, q_80_0, t_88, q_88_0, t_90, q_90_0, t_92, q_92_0, q_92_1, q_92_2, i_92_3, p_92_3, i_92_4, p_92_4, t_96, q_96_0, i_96_1, p_96_1, i_96_2, p_96_2, i_96_3, p_96_3, t_100, q_100_0, i_100_1, p_100_1, i_100_2, p_100_2, i_100_3, p_100_3, t_104, q_104_1, q_104_2, q_104_3, q_104_4, q_104_5, q_104_6, q_104_8, q_104_9, q_104_11, q_104_12, q_104_18, q_104_21, q_104_22, q_104_23, q_104_24, q_104_26, q_104_27, q_104_28, q_104_30, q_104_31, i_104_0, p_104_0, i_104_7, p_104_7, i_104_10, p_104_10, i_104_13, p_104_13, i_104_14, p_104_14, i_104_15, p_104_15, i_104_16, p_104_16, i_104_17, p_104_17, i_104_19, p_104_19, i_104_20, p_104_20, i_104_25, p_104_25, i_104_29, p_104_29, a_2, w_2, a_81, w_81, a_89, w_89, a_91, w_91, a_93, w_93, a_94, w_94, a_95, w_95, a_105, w_105, a_106, w_106, a_107, w_107, a_108, w_108, a_109, w_109, a_110, w_110, a_111, w_111, a_112, w_112, a_113, w_113, a_114, w_114, a_115, w_115, a_116, w_116, a_117, w_117, a_118, w_118, a_119, w_119, a_120, w_120, a_121, w_121, a_122, w_122, a_123, w_123, a_124, w_124, t1]
    rw [up_ne (a := 113) (by omega)]
    rfl
  · intro kc
    have h6 := fst1_at (n := 5) (f := fun k => decide (d < sumZ (C 113) (k + 1))) hl
    generalize hi : rdOf (C 113) d = i at *
    have h6' : decide (d < sumZ (C 113) (i + 1)) = true := by rw [← hi]; exact h6
    have h7 : d < sumZ (C 113) (i + 1) := by simpa using h6'
    have hb := sumZ_h (f := C 113) (n := i + 1) (fun k hk => hh k (by omega))
    unfold BX11_drawReading_18 CX11_drawReading_18
    simp (disch := omega) only [J_add, J_sub, J_mul, J_lt, J_le, J_eq, xbr_true, xbr_false, xbr_pos, xbr_neg, Int.toNat_natCast, all_eq, ex_eq]
/-- row, seed and count after the books below b -/
def svT (W w H : Nat → Int) (C : Nat → Nat → Int) (f : Nat → Bool) (b : Nat) (t : Rw × Int × Nat) : Rw × Int × Nat :=
  if f b = true ∧ ¬ idx t.1 b < t.1.1 then (if (putA W w C t.1 b (rdOf H (drw (ns t.2.1) (sumZ H 5)) : Nat)).1 = true then ((putA W w C t.1 b (rdOf H (drw (ns t.2.1) (sumZ H 5)) : Nat)).2, ns t.2.1, t.2.2 + 1) else (t.1, ns t.2.1, t.2.2)) else t
def svS (W w H : Nat → Int) (C : Nat → Nat → Int) (f : Nat → Bool) (A : Rw) (s : Int) : Nat → Rw × Int × Nat
  | 0 => (A, s, 0)
  | b + 1 => svT W w H C f b (svS W w H C f A s b)
theorem svS_ok {W w H : Nat → Int} {f : Nat → Bool} {s : Int} (hf : ∀ b, f b = true → b < nb) (hA : RwOk A nb) (hs : 0 ≤ s ∧ s < 2147483648) : ∀ b, RwOk (svS W w H C f A s b).1 nb ∧ (0 ≤ (svS W w H C f A s b).2.1 ∧ (svS W w H C f A s b).2.1 < 2147483648) ∧ (svS W w H C f A s b).2.2 ≤ b := by
  intro b
  induction b with
  | zero => exact ⟨hA, hs, Nat.le_refl _⟩
  | succ b ih =>
    obtain ⟨i1, i2, i3⟩ := ih
    show RwOk (svT W w H C f b (svS W w H C f A s b)).1 nb ∧ (0 ≤ (svT W w H C f b (svS W w H C f A s b)).2.1 ∧ (svT W w H C f b (svS W w H C f A s b)).2.1 < 2147483648) ∧ (svT W w H C f b (svS W w H C f A s b)).2.2 ≤ b + 1
    generalize svS W w H C f A s b = t at *
    unfold svT
    by_cases c : f b = true ∧ ¬ idx t.1 b < t.1.1
    · rw [if_pos c]
      split
      · exact ⟨(putA_ok i1 (hf b c.1) (idx_out c.2)).1, ns_b _, by show t.2.2 + 1 ≤ _; omega⟩
      · exact ⟨i1, ns_b _, by show t.2.2 ≤ _; omega⟩
    · rw [if_neg c]
      exact ⟨i1, i2, by omega⟩
theorem svS_same {W w H : Nat → Int} {f : Nat → Bool} {s : Int} (hf : ∀ b, f b = true → b < nb) {b : Nat} (h : nb ≤ b) : svS W w H C f A s b = svS W w H C f A s nb := by
  obtain ⟨d, rfl⟩ : ∃ d, b = nb + d := ⟨b - nb, by omega⟩
  induction d with
  | zero => rfl
  | succ d ih =>
    show svT W w H C f (nb + d) (svS W w H C f A s (nb + d)) = _
    unfold svT
    rw [if_neg (fun q => by have := hf _ q.1; omega)]
    exact ih (by omega)
theorem RowC.stands (k1 : RowC C 82 A) (k3 : RwOk A nb) (hn : nb ≤ 24) {b : Nat} (hb : b < 24) : PX6_stands (ad z 82) (J b) (lay z g C) K = K (J (if idx A b < A.1 then 1 else 0)) := by
  rw [s_stands r82 k1.2.2.2.2 (by omega) (by omega), k1.shb k3 hn]
  by_cases c : idx A b < A.1
  · rw [if_pos c, if_pos c, if_neg (by omega)]
  · rw [if_neg c, if_neg c, if_pos rfl]
theorem s_shelve (h : Inv C nb A) {v : Nat} {f : Nat → Bool} (hf : ∀ b, f b = true → b < nb) (hv : ∀ b, b < 24 → bt (J (v : Int)) b = f b) (hT : 0 < sumZ (C 113) 5)   : ∀ b, b ≤ 24 → ∃ D, ((∀ a, a ≠ 0 → (a < 82 ∨ 87 < a) → D a = C a) ∧ (∀ j, j ≠ 12 → D 0 j = C 0 j) ∧ D 0 12 = (svS (C 110) (C 109) (C 113) C f A (C 0 12) b).2.1 ∧ RowC D 82 (svS (C 110) (C 109) (C 113) C f A (C 0 12) b).1 ∧ RowOk D 85) ∧ ∀ K : Int32 → Mem → Prop, lp (BX10_shelve_30 K (ad z 0) (J (v : Int))) (lay z g C, J 0, J 0) = lp (BX10_shelve_30 K (ad z 0) (J (v : Int))) (lay z g D, J ((svS (C 110) (C 109) (C 113) C f A (C 0 12) b).2.2 : Nat), J (b : Nat)) := by
  obtain ⟨g1, g2, g3, g4, g5, g6, g7⟩ := h.2.1
  obtain ⟨k1, k2, k3⟩ := h.2.2.2.2.2.2.1
  obtain ⟨hc, hm, he⟩ := h.hh
  obtain ⟨sd1, sd2⟩ := h.2.2.2.2.1
  have okS := svS_ok (C := C) (W := C 110) (w := C 109) (H := C 113) (s := C 0 12) hf k3 sd2
  have eT : sumZ (C 91) 5 = sumZ (C 113) 5 := sumZ_congr (fun k hk => (he k hk).symm)
  intro b
  induction b with
  | zero => exact fun _ => ⟨C, ⟨fun _ _ _ => rfl, fun _ _ => rfl, rfl, k1, h.2.2.2.2.2.2.2.1⟩, fun _ => rfl⟩
  | succ b ih =>
    intro hb
    obtain ⟨D, ⟨d1, d2, d3, d4, d5⟩, hl⟩ := ih (by omega)
    obtain ⟨o1, o2, o3⟩ := okS b
    have hb24 : b < 24 := by omega
    show ∃ D, ((∀ a, a ≠ 0 → (a < 82 ∨ 87 < a) → D a = C a) ∧ (∀ j, j ≠ 12 → D 0 j = C 0 j) ∧ D 0 12 = (svT (C 110) (C 109) (C 113) C f b (svS (C 110) (C 109) (C 113) C f A (C 0 12) b)).2.1 ∧ RowC D 82 (svT (C 110) (C 109) (C 113) C f b (svS (C 110) (C 109) (C 113) C f A (C 0 12) b)).1 ∧ RowOk D 85) ∧ ∀ K : Int32 → Mem → Prop, lp (BX10_shelve_30 K (ad z 0) (J (v : Int))) (lay z g C, J 0, J 0) = lp (BX10_shelve_30 K (ad z 0) (J (v : Int))) (lay z g D, J ((svT (C 110) (C 109) (C 113) C f b (svS (C 110) (C 109) (C 113) C f A (C 0 12) b)).2.2 : Nat), J (b + 1 : Nat))
    generalize svS (C 110) (C 109) (C 113) C f A (C 0 12) b = t at *
    have hbt := hv b hb24
    have eb1 : (b : Int) + 1 = ((b + 1 : Nat) : Int) := by omega
    by_cases c : f b = true
    · by_cases c2 : idx t.1 b < t.1.1
      · refine ⟨D, ?_, fun K => (hl K).trans (lp_step fun kc => ?_)⟩
        · unfold svT
          rw [if_neg (fun q => q.2 c2)]
          exact ⟨d1, d2, d3, d4, d5⟩
        · unfold BX10_shelve_30 CX10_shelve_30 svT
          rw [if_neg (fun q => q.2 c2)]
          simp (disch := omega) only [J_add, J_sub, J_mul, J_lt, J_le, J_eq, xbr_true, xbr_false, xbr_pos, xbr_neg, Int.toNat_natCast, all_eq, ex_eq, t_0, q_0_0, q_0_1, q_0_2, q_0_3, q_0_4, q_0_5, q_0_6, q_0_7, q_0_8, q_0_9, i_0_10, p_0_10, i_0_11, p_0_11, i_0_12, p_0_12, t_1, q_1_0, t_3, q_3_0, q_3_1, i_3_2, p_3_2, i_3_3, p_3_3, t_80, q_80_0, t_88, q_88_0, t_90, q_90_0, t_92, q_92_0, q_92_1, q_92_2, i_92_3, p_92_3, i_92_4, p_92_4, t_96, q_96_0, i_96_1, p_96_1, i_96_2, p_96_2, i_96_3, p_96_3, t_100, q_100_0, i_100_1, p_100_1, i_100_2, p_100_2, i_100_3, p_100_3, t_104, q_104_1, q_104_2, q_104_3, q_104_4, q_104_5, q_104_6, q_104_8, q_104_9, q_104_11, q_104_12, q_104_18, q_104_21, q_104_22, q_104_23, q_104_24, q_104_26, q_104_27, q_104_28, q_104_30, q_104_31, i_104_0, p_104_0, i_104_7, p_104_7, i_104_10, p_104_10, i_104_13, p_104_13, i_104_14, p_104_14, i_104_15, p_104_15, i_104_16, p_104_16, i_104_17, p_104_17, i_104_19, p_104_19, i_104_20, p_104_20, i_104_25, p_104_25, i_104_29, p_104_29, a_2, w_2, a_81, w_81, a_89, w_89, a_91, w_91, a_93, w_93, a_94, w_94, a_95, w_95, a_105, w_105, a_106, w_106, a_107, w_107, a_108, w_108, a_109, w_109, a_110, w_110, a_111, w_111, a_112, w_112, a_113, w_113, a_114, w_114, a_115, w_115, a_116, w_116, a_117, w_117, a_118, w_118, a_119, w_119, a_120, w_120, a_121, w_121, a_122, w_122, a_123, w_123, a_124, w_124, s_isIn hb24, hbt, if_pos c, RowC.stands d4 o1 g1 hb24, if_pos c2, eb1]
      · have hx := hf b c
        have hq := idx_out c2
        have sb := ns_b t.2.1
        obtain ⟨w0, w1⟩ := drw_b (T := sumZ (C 113) 5) sb.1 hT
        have hlt := rdOf_lt w1
        obtain ⟨E, hE⟩ : ∃ E, E = up D 0 12 (ns t.2.1) := ⟨_, rfl⟩
        have e1 : ∀ a, a ≠ 0 → E a = D a := fun a ha => by rw [hE, up_ne ha]
        have eE : ∀ a, a ≠ 0 → (a < 82 ∨ 87 < a) → E a = C a := fun a h1 h2 => by rw [e1 a h1, d1 a h1 h2]
        have D91 : D 91 = C 91 := d1 91 (by omega) (by omega)
        have E91 : E 91 = C 91 := eE 91 (by omega) (by omega)
        have dr := fun K => s_draw (z := z) (g := g) (C := D) (K := K) (T := sumZ (C 91) 5) (by rw [eT]; exact hT) (by have := sumZ_h hc; omega) (by rw [d3]; exact o2)
        rw [d3, ← hE, eT] at dr
        have k1E : RowC E 82 t.1 := d4.fr (e1 _ (by omega)) (e1 _ (by omega)) (e1 _ (by omega))
        have pi := fun K => Inv.putIf (z := z) (g := g) (C := E) (K := K) (x := b) (k := (rdOf (C 113) (drw (ns t.2.1) (sumZ (C 113) 5)) : Nat)) (g5.fr (fun o _ _ => eE o (by omega) (by omega))) g1 (by rw [eE _ (by omega) (by omega)]; exact g2) (fun s hs => by rw [eE _ (by omega) (by omega)]; exact h.sm.2.2.2 s hs) k1E o1 (fun s hs => by rw [eE _ (by omega) (by omega), eE _ (by omega) (by omega)]; exact h.W s hs) (fun x hx => by
          have := h.w x hx
          unfold wC at this ⊢
          rw [eE _ (by omega) (by omega), eE _ (by omega) (by omega)]; exact this) hx hq (by omega) (by omega)
        have eP : putA (E 110) (E 109) E t.1 b (rdOf (C 113) (drw (ns t.2.1) (sumZ (C 113) 5)) : Nat) = putA (C 110) (C 109) C t.1 b (rdOf (C 113) (drw (ns t.2.1) (sumZ (C 113) 5)) : Nat) := putA_congr o1 hx hq (fun o _ _ => eE o (by omega) (by omega)) (fun s _ => by rw [eE _ (by omega) (by omega)]) (fun x _ => by rw [eE _ (by omega) (by omega)])
        have tr := tryC_row (k := (rdOf (C 113) (drw (ns t.2.1) (sumZ (C 113) 5)) : Nat)) k1E o1 g1 hx hq
        obtain ⟨p1, p2, p3⟩ := putA_ok (W := C 110) (w := C 109) (C := C) (k := (rdOf (C 113) (drw (ns t.2.1) (sumZ (C 113) 5)) : Nat)) o1 hx hq
        rw [eP] at pi tr
        have rd := fun K => s_readingOf (z := z) (g := g) (C := E) (K := K) (d := drw (ns t.2.1) (sumZ (C 113) 5)) (by rw [E91]; exact hc) w0 (by rw [E91, eT]; exact w1)
        have er : rdOf (C 91) (drw (ns t.2.1) (sumZ (C 113) 5)) = rdOf (C 113) (drw (ns t.2.1) (sumZ (C 113) 5)) := by
          unfold rdOf
          refine fst1_congr fun i hi => ?_
          rw [sumZ_congr (f := C 91) (g := C 113) (fun k hk => (he k (by omega)).symm)]
        rw [E91, er] at rd
        have tot := fun K => s_total (z := z) (g := g) (C := D) (K := K) (by rw [D91]; exact hc)
        rw [D91, eT] at tot
        generalize hk : rdOf (C 113) (drw (ns t.2.1) (sumZ (C 113) 5)) = k at *
        by_cases ok : (putA (C 110) (C 109) C t.1 b (k : Nat)).1 = true
        · have rc := tr.cp (r := 82) p1 g1
          have eC : ∀ a, a < 82 ∨ 87 < a → cpC (tryC E t.1 b (k : Nat)) 82 85 24 a = E a := fun a ha => by rw [cpC_ne (by omega), tryC_ne (by omega)]
          refine ⟨cpC (tryC E t.1 b (k : Nat)) 82 85 24, ?_, fun K => (hl K).trans (lp_step fun kc => ?_)⟩
          · unfold svT
            rw [if_pos ⟨c, c2⟩, hk, if_pos ok]
            refine ⟨fun a h1 h2 => by rw [eC a h2, eE a h1 h2], fun j hj => by rw [eC _ (by omega), hE, up_nk hj, d2 j hj], by rw [eC _ (by omega), hE, up_eq], rc, tr.2.2.2.2.fr (cpC_ne (by omega)) (cpC_ne (by omega)) (cpC_ne (by omega))⟩
          · unfold BX10_shelve_30 CX10_shelve_30 svT
            rw [if_pos ⟨c, c2⟩, hk, if_pos ok]
            simp (disch := omega) only [J_add, J_sub, J_mul, J_lt, J_le, J_eq, xbr_true, xbr_false, xbr_pos, xbr_neg, Int.toNat_natCast, all_eq, ex_eq, t_0, q_0_0, q_0_1, q_0_2, q_0_3, q_0_4, q_0_5, q_0_6, q_0_7, q_0_8, q_0_9, i_0_10, p_0_10, i_0_11, p_0_11, i_0_12, p_0_12, t_1, q_1_0, t_3, q_3_0, q_3_1, i_3_2, p_3_2, i_3_3, p_3_3, t_80, q_80_0, t_88, q_88_0, t_90, q_90_0, t_92, q_92_0, q_92_1, q_92_2, i_92_3, p_92_3, i_92_4, p_92_4, t_96, q_96_0, i_96_1, p_96_1, i_96_2, p_96_2, i_96_3, p_96_3, t_100, q_100_0, i_100_1, p_100_1, i_100_2, p_100_2, i_100_3, p_100_3, t_104, q_104_1, q_104_2, q_104_3, q_104_4, q_104_5, q_104_6, q_104_8, q_104_9, q_104_11, q_104_12, q_104_18, q_104_21, q_104_22, q_104_23, q_104_24, q_104_26, q_104_27, q_104_28, q_104_30, q_104_31, i_104_0, p_104_0, i_104_7, p_104_7, i_104_10, p_104_10, i_104_13, p_104_13, i_104_14, p_104_14, i_104_15, p_104_15, i_104_16, p_104_16, i_104_17, p_104_17, i_104_19, p_104_19, i_104_20, p_104_20, i_104_25, p_104_25, i_104_29, p_104_29, a_2, w_2, a_81, w_81, a_89, w_89, a_91, w_91, a_93, w_93, a_94, w_94, a_95, w_95, a_105, w_105, a_106, w_106, a_107, w_107, a_108, w_108, a_109, w_109, a_110, w_110, a_111, w_111, a_112, w_112, a_113, w_113, a_114, w_114, a_115, w_115, a_116, w_116, a_117, w_117, a_118, w_118, a_119, w_119, a_120, w_120, a_121, w_121, a_122, w_122, a_123, w_123, a_124, w_124, s_isIn hb24, hbt, if_pos c, RowC.stands d4 o1 g1 hb24, if_neg c2, tot, dr, rd, pi, if_pos ok, eb1]
            rfl
        · have eC : ∀ a, a < 85 ∨ 87 < a → tryC E t.1 b (k : Nat) a = E a := fun a ha => tryC_ne ha
          refine ⟨tryC E t.1 b (k : Nat), ?_, fun K => (hl K).trans (lp_step fun kc => ?_)⟩
          · unfold svT
            rw [if_pos ⟨c, c2⟩, hk, if_neg ok]
            refine ⟨fun a h1 h2 => by rw [eC a (by omega), eE a h1 h2], fun j hj => by rw [eC _ (by omega), hE, up_nk hj, d2 j hj], by rw [eC _ (by omega), hE, up_eq], k1E.fr (eC _ (by omega)) (eC _ (by omega)) (eC _ (by omega)), tr.2.2.2.2⟩
          · unfold BX10_shelve_30 CX10_shelve_30 svT
            rw [if_pos ⟨c, c2⟩, hk, if_neg ok]
            simp (disch := omega) only [J_add, J_sub, J_mul, J_lt, J_le, J_eq, xbr_true, xbr_false, xbr_pos, xbr_neg, Int.toNat_natCast, all_eq, ex_eq, t_0, q_0_0, q_0_1, q_0_2, q_0_3, q_0_4, q_0_5, q_0_6, q_0_7, q_0_8, q_0_9, i_0_10, p_0_10, i_0_11, p_0_11, i_0_12, p_0_12, t_1, q_1_0, t_3, q_3_0, q_3_1, i_3_2, p_3_2, i_3_3, p_3_3, t_80, q_80_0, t_88, q_88_0, t_90, q_90_0, t_92, q_92_0, q_92_1, q_92_2, i_92_3, p_92_3, i_92_4, p_92_4, t_96, q_96_0, i_96_1, p_96_1, i_96_2, p_96_2, i_96_3, p_96_3, t_100, q_100_0, i_100_1, p_100_1, i_100_2, p_100_2, i_100_3, p_100_3, t_104, q_104_1, q_104_2, q_104_3, q_104_4, q_104_5, q_104_6, q_104_8, q_104_9, q_104_11, q_104_12, q_104_18, q_104_21, q_104_22, q_104_23, q_104_24, q_104_26, q_104_27, q_104_28, q_104_30, q_104_31, i_104_0, p_104_0, i_104_7, p_104_7, i_104_10, p_104_10, i_104_13, p_104_13, i_104_14, p_104_14, i_104_15, p_104_15, i_104_16, p_104_16, i_104_17, p_104_17, i_104_19, p_104_19, i_104_20, p_104_20, i_104_25, p_104_25, i_104_29, p_104_29, a_2, w_2, a_81, w_81, a_89, w_89, a_91, w_91, a_93, w_93, a_94, w_94, a_95, w_95, a_105, w_105, a_106, w_106, a_107, w_107, a_108, w_108, a_109, w_109, a_110, w_110, a_111, w_111, a_112, w_112, a_113, w_113, a_114, w_114, a_115, w_115, a_116, w_116, a_117, w_117, a_118, w_118, a_119, w_119, a_120, w_120, a_121, w_121, a_122, w_122, a_123, w_123, a_124, w_124, s_isIn hb24, hbt, if_pos c, RowC.stands d4 o1 g1 hb24, if_neg c2, tot, dr, rd, pi, if_neg ok, eb1]
    · refine ⟨D, ?_, fun K => (hl K).trans (lp_step fun kc => ?_)⟩
      · unfold svT
        rw [if_neg (fun q => c q.1)]
        exact ⟨d1, d2, d3, d4, d5⟩
      · unfold BX10_shelve_30 CX10_shelve_30 svT
        rw [if_neg (fun q => c q.1)]
        simp (disch := omega) only [J_add, J_sub, J_mul, J_lt, J_le, J_eq, xbr_true, xbr_false, xbr_pos, xbr_neg, Int.toNat_natCast, all_eq, ex_eq, t_0, q_0_0, q_0_1, q_0_2, q_0_3, q_0_4, q_0_5, q_0_6, q_0_7, q_0_8, q_0_9, i_0_10, p_0_10, i_0_11, p_0_11, i_0_12, p_0_12, t_1, q_1_0, t_3, q_3_0, q_3_1, i_3_2, p_3_2, i_3_3, p_3_3, t_80, q_80_0, t_88, q_88_0, t_90, q_90_0, t_92, q_92_0, q_92_1, q_92_2, i_92_3, p_92_3, i_92_4, p_92_4, t_96, q_96_0, i_96_1, p_96_1, i_96_2, p_96_2, i_96_3, p_96_3, t_100, q_100_0, i_100_1, p_100_1, i_100_2, p_100_2, i_100_3, p_100_3, t_104, q_104_1, q_104_2, q_104_3, q_104_4, q_104_5, q_104_6, q_104_8, q_104_9, q_104_11, q_104_12, q_104_18, q_104_21, q_104_22, q_104_23, q_104_24, q_104_26, q_104_27, q_104_28, q_104_30, q_104_31, i_104_0, p_104_0, i_104_7, p_104_7, i_104_10, p_104_10, i_104_13, p_104_13, i_104_14, p_104_14, i_104_15, p_104_15, i_104_16, p_104_16, i_104_17, p_104_17, i_104_19, p_104_19, i_104_20, p_104_20, i_104_25, p_104_25, i_104_29, p_104_29, a_2, w_2, a_81, w_81, a_89, w_89, a_91, w_91, a_93, w_93, a_94, w_94, a_95, w_95, a_105, w_105, a_106, w_106, a_107, w_107, a_108, w_108, a_109, w_109, a_110, w_110, a_111, w_111, a_112, w_112, a_113, w_113, a_114, w_114, a_115, w_115, a_116, w_116, a_117, w_117, a_118, w_118, a_119, w_119, a_120, w_120, a_121, w_121, a_122, w_122, a_123, w_123, a_124, w_124, s_isIn hb24, hbt, if_neg c, eb1]
/-- the same of the reference, from any memory that agrees -/
theorem m_shelve (h : Inv C nb A) {v : Nat} {f : Nat → Bool} (hf : ∀ b, f b = true → b < nb) (hv : ∀ b, b < 24 → bt (J (v : Int)) b = f b) (hT : 0 < sumZ (C 113) 5) {F : Nat → Nat → Int} (hF : ∀ a, a ≠ 0 → (a < 82 ∨ 87 < a) → F a = C a)   : ∀ b, b ≤ nb → ∃ D, ((∀ a, a ≠ 104 → a ≠ 111 → a ≠ 112 → a ≠ 116 → a ≠ 117 → D a = F a) ∧ (∀ j, j ≠ 7 → j ≠ 20 → j ≠ 29 → D 104 j = F 104 j) ∧ D 104 29 = (svS (C 110) (C 109) (C 113) C f A (C 0 12) b).2.1 ∧ RowM D (svS (C 110) (C 109) (C 113) C f A (C 0 12) b).1) ∧ ∀ K : Int32 → Mem → Prop, lp (BX11_shelve_27 K (ad z 104) (J (v : Int))) (lay z g F, J 0, J 0) = lp (BX11_shelve_27 K (ad z 104) (J (v : Int))) (lay z g D, J ((svS (C 110) (C 109) (C 113) C f A (C 0 12) b).2.2 : Nat), J (b : Nat)) := by
  obtain ⟨g1, g2, g3, g4, g5, g6, g7⟩ := h.2.1
  obtain ⟨k1, k2, k3⟩ := h.2.2.2.2.2.2.1
  obtain ⟨hc, hm, he⟩ := h.hh
  obtain ⟨sd1, sd2⟩ := h.2.2.2.2.1
  have hSM := h.smm
  have okS := svS_ok (C := C) (W := C 110) (w := C 109) (H := C 113) (s := C 0 12) hf k3 sd2
  intro b
  induction b with
  | zero => exact fun _ => ⟨F, ⟨fun _ _ _ _ _ _ => rfl, fun _ _ _ _ => rfl, by rw [hF _ (by omega) (by omega)]; exact sd1, k2.fr (by rw [hF _ (by omega) (by omega)]) (hF _ (by omega) (by omega)) (hF _ (by omega) (by omega))⟩, fun _ => rfl⟩
  | succ b ih =>
    intro hb
    obtain ⟨D, ⟨d1, d2, d3, d4⟩, hl⟩ := ih (by omega)
    obtain ⟨o1, o2, o3⟩ := okS b
    have hb24 : b < 24 := by omega
    have dC : ∀ a, a ≠ 0 → (a < 82 ∨ 87 < a) → a ≠ 104 → a ≠ 111 → a ≠ 112 → a ≠ 116 → a ≠ 117 → D a = C a := fun a h1 h2 h3 h4 h5 h6 h7 => by rw [d1 a h3 h4 h5 h6 h7, hF a h1 h2]
    have e0 : D 104 0 = nb := by rw [d2 _ (by omega) (by omega) (by omega), hF _ (by omega) (by omega)]; exact g4
    have hl24 := d4.2.1
    show ∃ D, ((∀ a, a ≠ 104 → a ≠ 111 → a ≠ 112 → a ≠ 116 → a ≠ 117 → D a = F a) ∧ (∀ j, j ≠ 7 → j ≠ 20 → j ≠ 29 → D 104 j = F 104 j) ∧ D 104 29 = (svT (C 110) (C 109) (C 113) C f b (svS (C 110) (C 109) (C 113) C f A (C 0 12) b)).2.1 ∧ RowM D (svT (C 110) (C 109) (C 113) C f b (svS (C 110) (C 109) (C 113) C f A (C 0 12) b)).1) ∧ ∀ K : Int32 → Mem → Prop, lp (BX11_shelve_27 K (ad z 104) (J (v : Int))) (lay z g F, J 0, J 0) = lp (BX11_shelve_27 K (ad z 104) (J (v : Int))) (lay z g D, J ((svT (C 110) (C 109) (C 113) C f b (svS (C 110) (C 109) (C 113) C f A (C 0 12) b)).2.2 : Nat), J (b + 1 : Nat))
    generalize svS (C 110) (C 109) (C 113) C f A (C 0 12) b = t at *
    have hbt := hv b hb24
    have eb1 : (b : Int) + 1 = ((b + 1 : Nat) : Int) := by omega
    by_cases c : f b = true
    · by_cases c2 : idx t.1 b < t.1.1
      · refine ⟨D, ?_, fun K => (hl K).trans (lp_step fun kc => ?_)⟩
        · unfold svT
          rw [if_neg (fun q => q.2 c2)]
          exact ⟨d1, d2, d3, d4⟩
        · unfold BX11_shelve_27 CX11_shelve_27 svT
          rw [if_neg (fun q => q.2 c2)]
          simp (disch := omega) only [J_add, J_sub, J_mul, J_lt, J_le, J_eq, xbr_true, xbr_false, xbr_pos, xbr_neg, Int.toNat_natCast, all_eq, ex_eq, t_0, q_0_0, q_0_1, q_0_2, q_0_3, q_0_4, q_0_5, q_0_6, q_0_7, q_0_8, q_0_9, i_0_10, p_0_10, i_0_11, p_0_11, i_0_12, p_0_12, t_1, q_1_0, t_3, q_3_0, q_3_1, i_3_2, p_3_2, i_3_3, p_3_3, t_80, q_80_0, t_88, q_88_0, t_90, q_90_0, t_92, q_92_0, q_92_1, q_92_2, i_92_3, p_92_3, i_92_4, p_92_4, t_96, q_96_0, i_96_1, p_96_1, i_96_2, p_96_2, i_96_3, p_96_3, t_100, q_100_0, i_100_1, p_100_1, i_100_2, p_100_2, i_100_3, p_100_3, t_104, q_104_1, q_104_2, q_104_3, q_104_4, q_104_5, q_104_6, q_104_8, q_104_9, q_104_11, q_104_12, q_104_18, q_104_21, q_104_22, q_104_23, q_104_24, q_104_26, q_104_27, q_104_28, q_104_30, q_104_31, i_104_0, p_104_0, i_104_7, p_104_7, i_104_10, p_104_10, i_104_13, p_104_13, i_104_14, p_104_14, i_104_15, p_104_15, i_104_16, p_104_16, i_104_17, p_104_17, i_104_19, p_104_19, i_104_20, p_104_20, i_104_25, p_104_25, i_104_29, p_104_29, a_2, w_2, a_81, w_81, a_89, w_89, a_91, w_91, a_93, w_93, a_94, w_94, a_95, w_95, a_105, w_105, a_106, w_106, a_107, w_107, a_108, w_108, a_109, w_109, a_110, w_110, a_111, w_111, a_112, w_112, a_113, w_113, a_114, w_114, a_115, w_115, a_116, w_116, a_117, w_117, a_118, w_118, a_119, w_119, a_120, w_120, a_121, w_121, a_122, w_122, a_123, w_123, a_124, w_124, e0, m_has hb24, hbt, if_pos c, m_placeOf d4 o1 g1 hb24, if_pos c2, eb1]
      · have hx := hf b c
        have hq := idx_out c2
        have sb := ns_b t.2.1
        obtain ⟨w0, w1⟩ := drw_b (T := sumZ (C 113) 5) sb.1 hT
        have hlt := rdOf_lt w1
        obtain ⟨s1, s2⟩ := d4.sav
        have S113 : savC D 25 8 113 = C 113 := by rw [savC_ne (by omega), dC _ (by omega) (by omega) (by omega) (by omega) (by omega) (by omega) (by omega)]
        have S29 : savC D 25 8 104 29 = t.2.1 := by rw [savC_104 (by omega)]; exact d3
        have dr := fun K => m_drawReading (z := z) (g := g) (C := savC D 25 8) (K := K) (by rw [S113]; exact hm) (by rw [S113]; exact hT) (by rw [S29]; exact o2)
        rw [S113, S29] at dr
        obtain ⟨E, hE⟩ : ∃ E, E = up (savC D 25 8) 104 29 (ns t.2.1) := ⟨_, rfl⟩
        rw [← hE] at dr
        have e1 : ∀ a, a ≠ 104 → E a = savC D 25 8 a := fun a ha => by rw [hE, up_ne ha]
        have e4 : ∀ j, j ≠ 29 → E 104 j = savC D 25 8 104 j := fun j hj => by rw [hE, up_nk hj]
        have eE : ∀ a, a ≠ 0 → (a < 82 ∨ 87 < a) → a ≠ 104 → a ≠ 111 → a ≠ 112 → a ≠ 116 → a ≠ 117 → E a = C a := fun a h1 h2 h3 h4 h5 h6 h7 => by rw [e1 a h3, savC_ne ⟨h3, h6, h7⟩, dC a h1 h2 h3 h4 h5 h6 h7]
        have k2E : RowM E t.1 := s1.fr (e4 _ (by omega)) (e1 _ (by omega)) (e1 _ (by omega))
        have wE : WasM E t.1 := s2.fr (e4 _ (by omega)) (e1 _ (by omega)) (e1 _ (by omega))
        have c9 : E 109 = C 109 := eE _ (by omega) (by omega) (by omega) (by omega) (by omega) (by omega) (by omega)
        have c10 : E 110 = C 110 := eE _ (by omega) (by omega) (by omega) (by omega) (by omega) (by omega) (by omega)
        have hSE : SmM E nb := ⟨g1, by rw [c9]; exact hSM.2.1, by rw [c10]; exact hSM.2.2⟩
        have mp := fun K => m_putNow (z := z) (g := g) (C := E) (K := K) (b := b) (k := (rdOf (C 113) (drw (ns t.2.1) (sumZ (C 113) 5)) : Nat)) k2E o1 hSE (fun x hx => (g6 x hx).fr (by omega) (fun a _ _ => eE a (by omega) (by omega) (by omega) (by omega) (by omega) (by omega) (by omega)) (fun a _ _ => eE a (by omega) (by omega) (by omega) (by omega) (by omega) (by omega) (by omega))) hx hq (by omega) (by omega)
        have ea : ∀ o, 5 ≤ o → o ≤ 79 → E o = C o := fun o _ _ => eE o (by omega) (by omega) (by omega) (by omega) (by omega) (by omega) (by omega)
        rw [c9, c10, putA_congr (C := C) (W' := C 110) (w' := C 109) o1 hx hq ea (fun s _ => rfl) (fun x _ => rfl), spotA_congr ea] at mp
        obtain ⟨p1, p2, p3⟩ := putA_ok (W := C 110) (w := C 109) (C := C) (k := (rdOf (C 113) (drw (ns t.2.1) (sumZ (C 113) 5)) : Nat)) o1 hx hq
        have hroom := o1.room hx hq
        generalize hk : rdOf (C 113) (drw (ns t.2.1) (sumZ (C 113) 5)) = k at *
        have kN := (k2E.ins (b := b) (s := spotS t.1 (spotA C t.1 b (k : Nat))) (spotA_le C t.1 b (k : Nat)) (by omega)).onC p2 p3
        by_cases ok : (putA (C 110) (C 109) C t.1 b (k : Nat)).1 = true
        · refine ⟨onC (insM E (spotA C t.1 b (k : Nat)) b (spotS t.1 (spotA C t.1 b (k : Nat)))) (putA (C 110) (C 109) C t.1 b (k : Nat)).2, ?_, fun K => (hl K).trans (lp_step fun kc => ?_)⟩
          · unfold svT
            rw [if_pos ⟨c, c2⟩, hk, if_pos ok]
            refine ⟨fun a h1 h2 h3 h4 h5 => by rw [onC_ne h3, insM_ne ⟨h1, h2, h3⟩, e1 a h1, savC_ne ⟨h1, h4, h5⟩, d1 a h1 h2 h3 h4 h5], fun j h1 h2 h3 => by rw [onC_ne (by omega), insM_104 h1, e4 j h3, savC_104 h2, d2 j h1 h2 h3], by rw [onC_ne (by omega), insM_104 (by omega), hE, up_eq], kN⟩
          · unfold BX11_shelve_27 CX11_shelve_27 svT
            rw [if_pos ⟨c, c2⟩, hk, if_pos ok]
            simp (disch := omega) only [J_add, J_sub, J_mul, J_lt, J_le, J_eq, xbr_true, xbr_false, xbr_pos, xbr_neg, Int.toNat_natCast, all_eq, ex_eq, t_0, q_0_0, q_0_1, q_0_2, q_0_3, q_0_4, q_0_5, q_0_6, q_0_7, q_0_8, q_0_9, i_0_10, p_0_10, i_0_11, p_0_11, i_0_12, p_0_12, t_1, q_1_0, t_3, q_3_0, q_3_1, i_3_2, p_3_2, i_3_3, p_3_3, t_80, q_80_0, t_88, q_88_0, t_90, q_90_0, t_92, q_92_0, q_92_1, q_92_2, i_92_3, p_92_3, i_92_4, p_92_4, t_96, q_96_0, i_96_1, p_96_1, i_96_2, p_96_2, i_96_3, p_96_3, t_100, q_100_0, i_100_1, p_100_1, i_100_2, p_100_2, i_100_3, p_100_3, t_104, q_104_1, q_104_2, q_104_3, q_104_4, q_104_5, q_104_6, q_104_8, q_104_9, q_104_11, q_104_12, q_104_18, q_104_21, q_104_22, q_104_23, q_104_24, q_104_26, q_104_27, q_104_28, q_104_30, q_104_31, i_104_0, p_104_0, i_104_7, p_104_7, i_104_10, p_104_10, i_104_13, p_104_13, i_104_14, p_104_14, i_104_15, p_104_15, i_104_16, p_104_16, i_104_17, p_104_17, i_104_19, p_104_19, i_104_20, p_104_20, i_104_25, p_104_25, i_104_29, p_104_29, a_2, w_2, a_81, w_81, a_89, w_89, a_91, w_91, a_93, w_93, a_94, w_94, a_95, w_95, a_105, w_105, a_106, w_106, a_107, w_107, a_108, w_108, a_109, w_109, a_110, w_110, a_111, w_111, a_112, w_112, a_113, w_113, a_114, w_114, a_115, w_115, a_116, w_116, a_117, w_117, a_118, w_118, a_119, w_119, a_120, w_120, a_121, w_121, a_122, w_122, a_123, w_123, a_124, w_124, e0, m_has hb24, hbt, if_pos c, m_placeOf d4 o1 g1 hb24, if_neg c2, m_save, dr, mp, if_pos ok]
            unfold JX11_shelve_77
            simp (disch := omega) only [J_add, J_sub, J_mul, J_lt, J_le, J_eq, xbr_true, xbr_false, xbr_pos, xbr_neg, Int.toNat_natCast, all_eq, ex_eq, eb1]
            rfl
        · refine ⟨bakC (onC (insM E (spotA C t.1 b (k : Nat)) b (spotS t.1 (spotA C t.1 b (k : Nat)))) (putA (C 110) (C 109) C t.1 b (k : Nat)).2) 25 8, ?_, fun K => (hl K).trans (lp_step fun kc => ?_)⟩
          · unfold svT
            rw [if_pos ⟨c, c2⟩, hk, if_neg ok]
            refine ⟨fun a h1 h2 h3 h4 h5 => by rw [bakC_ne ⟨h1, h2, h3⟩, onC_ne h3, insM_ne ⟨h1, h2, h3⟩, e1 a h1, savC_ne ⟨h1, h4, h5⟩, d1 a h1 h2 h3 h4 h5], fun j h1 h2 h3 => by rw [bakC_104 h1, onC_ne (by omega), insM_104 h1, e4 j h3, savC_104 h2, d2 j h1 h2 h3], by rw [bakC_104 (by omega), onC_ne (by omega), insM_104 (by omega), hE, up_eq], ?_⟩
            exact (wE.fr (by rw [onC_ne (by omega), insM_104 (by omega)]) (by rw [onC_ne (by omega), insM_ne (by omega)]) (by rw [onC_ne (by omega), insM_ne (by omega)])).bak hl24
          · unfold BX11_shelve_27 CX11_shelve_27 svT
            rw [if_pos ⟨c, c2⟩, hk, if_neg ok]
            simp (disch := omega) only [J_add, J_sub, J_mul, J_lt, J_le, J_eq, xbr_true, xbr_false, xbr_pos, xbr_neg, Int.toNat_natCast, all_eq, ex_eq, t_0, q_0_0, q_0_1, q_0_2, q_0_3, q_0_4, q_0_5, q_0_6, q_0_7, q_0_8, q_0_9, i_0_10, p_0_10, i_0_11, p_0_11, i_0_12, p_0_12, t_1, q_1_0, t_3, q_3_0, q_3_1, i_3_2, p_3_2, i_3_3, p_3_3, t_80, q_80_0, t_88, q_88_0, t_90, q_90_0, t_92, q_92_0, q_92_1, q_92_2, i_92_3, p_92_3, i_92_4, p_92_4, t_96, q_96_0, i_96_1, p_96_1, i_96_2, p_96_2, i_96_3, p_96_3, t_100, q_100_0, i_100_1, p_100_1, i_100_2, p_100_2, i_100_3, p_100_3, t_104, q_104_1, q_104_2, q_104_3, q_104_4, q_104_5, q_104_6, q_104_8, q_104_9, q_104_11, q_104_12, q_104_18, q_104_21, q_104_22, q_104_23, q_104_24, q_104_26, q_104_27, q_104_28, q_104_30, q_104_31, i_104_0, p_104_0, i_104_7, p_104_7, i_104_10, p_104_10, i_104_13, p_104_13, i_104_14, p_104_14, i_104_15, p_104_15, i_104_16, p_104_16, i_104_17, p_104_17, i_104_19, p_104_19, i_104_20, p_104_20, i_104_25, p_104_25, i_104_29, p_104_29, a_2, w_2, a_81, w_81, a_89, w_89, a_91, w_91, a_93, w_93, a_94, w_94, a_95, w_95, a_105, w_105, a_106, w_106, a_107, w_107, a_108, w_108, a_109, w_109, a_110, w_110, a_111, w_111, a_112, w_112, a_113, w_113, a_114, w_114, a_115, w_115, a_116, w_116, a_117, w_117, a_118, w_118, a_119, w_119, a_120, w_120, a_121, w_121, a_122, w_122, a_123, w_123, a_124, w_124, e0, m_has hb24, hbt, if_pos c, m_placeOf d4 o1 g1 hb24, if_neg c2, m_save, dr, mp, if_neg ok]
            unfold JX11_shelve_77
            simp (disch := omega) only [J_add, J_sub, J_mul, J_lt, J_le, J_eq, xbr_true, xbr_false, xbr_pos, xbr_neg, Int.toNat_natCast, all_eq, ex_eq, m_back, eb1]
            rw [show ((t.2.2 : Nat) : Int) + 0 = (t.2.2 : Int) by omega]
    · refine ⟨D, ?_, fun K => (hl K).trans (lp_step fun kc => ?_)⟩
      · unfold svT
        rw [if_neg (fun q => c q.1)]
        exact ⟨d1, d2, d3, d4⟩
      · unfold BX11_shelve_27 CX11_shelve_27 svT
        rw [if_neg (fun q => c q.1)]
        simp (disch := omega) only [J_add, J_sub, J_mul, J_lt, J_le, J_eq, xbr_true, xbr_false, xbr_pos, xbr_neg, Int.toNat_natCast, all_eq, ex_eq, t_0, q_0_0, q_0_1, q_0_2, q_0_3, q_0_4, q_0_5, q_0_6, q_0_7, q_0_8, q_0_9, i_0_10, p_0_10, i_0_11, p_0_11, i_0_12, p_0_12, t_1, q_1_0, t_3, q_3_0, q_3_1, i_3_2, p_3_2, i_3_3, p_3_3, t_80, q_80_0, t_88, q_88_0, t_90, q_90_0, t_92, q_92_0, q_92_1, q_92_2, i_92_3, p_92_3, i_92_4, p_92_4, t_96, q_96_0, i_96_1, p_96_1, i_96_2, p_96_2, i_96_3, p_96_3, t_100, q_100_0, i_100_1, p_100_1, i_100_2, p_100_2, i_100_3, p_100_3, t_104, q_104_1, q_104_2, q_104_3, q_104_4, q_104_5, q_104_6, q_104_8, q_104_9, q_104_11, q_104_12, q_104_18, q_104_21, q_104_22, q_104_23, q_104_24, q_104_26, q_104_27, q_104_28, q_104_30, q_104_31, i_104_0, p_104_0, i_104_7, p_104_7, i_104_10, p_104_10, i_104_13, p_104_13, i_104_14, p_104_14, i_104_15, p_104_15, i_104_16, p_104_16, i_104_17, p_104_17, i_104_19, p_104_19, i_104_20, p_104_20, i_104_25, p_104_25, i_104_29, p_104_29, a_2, w_2, a_81, w_81, a_89, w_89, a_91, w_91, a_93, w_93, a_94, w_94, a_95, w_95, a_105, w_105, a_106, w_106, a_107, w_107, a_108, w_108, a_109, w_109, a_110, w_110, a_111, w_111, a_112, w_112, a_113, w_113, a_114, w_114, a_115, w_115, a_116, w_116, a_117, w_117, a_118, w_118, a_119, w_119, a_120, w_120, a_121, w_121, a_122, w_122, a_123, w_123, a_124, w_124, e0, m_has hb24, hbt, if_neg c, eb1]
theorem op_shelve (h : Inv C nb A) {v : Int} (hv : -2147483648 ≤ v ∧ v < 2147483648) : ∃ (r : Int) (C1 C2 : Nat → Nat → Int) (A2 : Rw), (∀ K, PX10_shelve (ad z 0) (J v) (lay z g C) K = K (J r) (lay z g C1)) ∧ (∀ K, PX11_shelve (ad z 104) (J v) (lay z g C1) K = K (J r) (lay z g C2)) ∧ Inv C2 nb A2 := by
  obtain ⟨g1, g2, g3, g4, g5, g6, g7⟩ := h.2.1
  obtain ⟨k1, k2, k3⟩ := h.2.2.2.2.2.2.1
  obtain ⟨hc, hm, he⟩ := h.hh
  have hp := pow_b g1
  have eT : sumZ (C 91) 5 = sumZ (C 113) 5 := sumZ_congr (fun k hk => (he k hk).symm)
  have hTb := sumZ_h hm
  by_cases c : 0 ≤ v ∧ v < ((2 ^ nb : Nat) : Int)
  · by_cases c0 : sumZ (C 113) 5 = 0
    · refine ⟨-1003, C, C, A, fun K => ?_, fun K => ?_, h⟩
      · unfold PX10_shelve
        simp (disch := omega) only [J_add, J_sub, J_mul, J_lt, J_le, J_eq, xbr_true, xbr_false, xbr_pos, xbr_neg, Int.toNat_natCast, all_eq, ex_eq, t_0, q_0_0, q_0_1, q_0_2, q_0_3, q_0_4, q_0_5, q_0_6, q_0_7, q_0_8, q_0_9, i_0_10, p_0_10, i_0_11, p_0_11, i_0_12, p_0_12, t_1, q_1_0, t_3, q_3_0, q_3_1, i_3_2, p_3_2, i_3_3, p_3_3, t_80, q_80_0, t_88, q_88_0, t_90, q_90_0, t_92, q_92_0, q_92_1, q_92_2, i_92_3, p_92_3, i_92_4, p_92_4, t_96, q_96_0, i_96_1, p_96_1, i_96_2, p_96_2, i_96_3, p_96_3, t_100, q_100_0, i_100_1, p_100_1, i_100_2, p_100_2, i_100_3, p_100_3, t_104, q_104_1, q_104_2, q_104_3, q_104_4, q_104_5, q_104_6, q_104_8, q_104_9, q_104_11, q_104_12, q_104_18, q_104_21, q_104_22, q_104_23, q_104_24, q_104_26, q_104_27, q_104_28, q_104_30, q_104_31, i_104_0, p_104_0, i_104_7, p_104_7, i_104_10, p_104_10, i_104_13, p_104_13, i_104_14, p_104_14, i_104_15, p_104_15, i_104_16, p_104_16, i_104_17, p_104_17, i_104_19, p_104_19, i_104_20, p_104_20, i_104_25, p_104_25, i_104_29, p_104_29, a_2, w_2, a_81, w_81, a_89, w_89, a_91, w_91, a_93, w_93, a_94, w_94, a_95, w_95, a_105, w_105, a_106, w_106, a_107, w_107, a_108, w_108, a_109, w_109, a_110, w_110, a_111, w_111, a_112, w_112, a_113, w_113, a_114, w_114, a_115, w_115, a_116, w_116, a_117, w_117, a_118, w_118, a_119, w_119, a_120, w_120, a_121, w_121, a_122, w_122, a_123, w_123, a_124, w_124, s_isSet g1 g2, if_pos c, s_total hc, eT, c0]
      · unfold PX11_shelve
        simp (disch := omega) only [J_add, J_sub, J_mul, J_lt, J_le, J_eq, xbr_true, xbr_false, xbr_pos, xbr_neg, Int.toNat_natCast, all_eq, ex_eq, t_0, q_0_0, q_0_1, q_0_2, q_0_3, q_0_4, q_0_5, q_0_6, q_0_7, q_0_8, q_0_9, i_0_10, p_0_10, i_0_11, p_0_11, i_0_12, p_0_12, t_1, q_1_0, t_3, q_3_0, q_3_1, i_3_2, p_3_2, i_3_3, p_3_3, t_80, q_80_0, t_88, q_88_0, t_90, q_90_0, t_92, q_92_0, q_92_1, q_92_2, i_92_3, p_92_3, i_92_4, p_92_4, t_96, q_96_0, i_96_1, p_96_1, i_96_2, p_96_2, i_96_3, p_96_3, t_100, q_100_0, i_100_1, p_100_1, i_100_2, p_100_2, i_100_3, p_100_3, t_104, q_104_1, q_104_2, q_104_3, q_104_4, q_104_5, q_104_6, q_104_8, q_104_9, q_104_11, q_104_12, q_104_18, q_104_21, q_104_22, q_104_23, q_104_24, q_104_26, q_104_27, q_104_28, q_104_30, q_104_31, i_104_0, p_104_0, i_104_7, p_104_7, i_104_10, p_104_10, i_104_13, p_104_13, i_104_14, p_104_14, i_104_15, p_104_15, i_104_16, p_104_16, i_104_17, p_104_17, i_104_19, p_104_19, i_104_20, p_104_20, i_104_25, p_104_25, i_104_29, p_104_29, a_2, w_2, a_81, w_81, a_89, w_89, a_91, w_91, a_93, w_93, a_94, w_94, a_95, w_95, a_105, w_105, a_106, w_106, a_107, w_107, a_108, w_108, a_109, w_109, a_110, w_110, a_111, w_111, a_112, w_112, a_113, w_113, a_114, w_114, a_115, w_115, a_116, w_116, a_117, w_117, a_118, w_118, a_119, w_119, a_120, w_120, a_121, w_121, a_122, w_122, a_123, w_123, a_124, w_124, m_areBooks g1 g4, if_pos c, m_allHabits hm, c0]
    · obtain ⟨n, rfl⟩ : ∃ n : Nat, v = n := ⟨v.toNat, by omega⟩
      have hT : 0 < sumZ (C 113) 5 := by omega
      have hf : ∀ b, n.testBit b = true → b < nb := fun b hb => by
        rcases Nat.lt_or_ge b nb with q | q
        · exact q
        · rw [testBit_small (k := nb) (by omega) q] at hb; cases hb
      have hbt : ∀ b, b < 24 → bt (J (n : Int)) b = n.testBit b := fun b hb => bt_nat (by omega)
      have eS : svS (C 110) (C 109) (C 113) C n.testBit A (C 0 12) 24 = svS (C 110) (C 109) (C 113) C n.testBit A (C 0 12) nb := svS_same hf g1
      obtain ⟨o1, o2, o3⟩ := svS_ok (C := C) (W := C 110) (w := C 109) (H := C 113) (s := C 0 12) hf k3 h.2.2.2.2.1.2 nb
      obtain ⟨D, ⟨d1, d2, d3, d4, d5⟩, hD⟩ := s_shelve (z := z) (g := g) h hf hbt hT 24 (by omega)
      obtain ⟨E, ⟨e1, e2, e3, e4⟩, hE⟩ := m_shelve (z := z) (g := g) h hf hbt hT d1 nb (by omega)
      rw [eS] at d3 d4
      simp only [eS] at hD
      generalize svS (C 110) (C 109) (C 113) C n.testBit A (C 0 12) nb = t at *
      have D113 : D 113 = C 113 := d1 _ (by omega) (by omega)
      have D0 : D 104 0 = nb := by rw [d1 _ (by omega) (by omega)]; exact g4
      have E0 : E 104 0 = nb := by rw [e2 _ (by omega) (by omega) (by omega)]; exact D0
      refine ⟨(t.2.2 : Nat), D, E, t.1, fun K => ?_, fun K => ?_, ?_⟩
      · unfold PX10_shelve
        simp (disch := omega) only [J_add, J_sub, J_mul, J_lt, J_le, J_eq, xbr_true, xbr_false, xbr_pos, xbr_neg, Int.toNat_natCast, all_eq, ex_eq, t_0, q_0_0, q_0_1, q_0_2, q_0_3, q_0_4, q_0_5, q_0_6, q_0_7, q_0_8, q_0_9, i_0_10, p_0_10, i_0_11, p_0_11, i_0_12, p_0_12, t_1, q_1_0, t_3, q_3_0, q_3_1, i_3_2, p_3_2, i_3_3, p_3_3, t_80, q_80_0, t_88, q_88_0, t_90, q_90_0, t_92, q_92_0, q_92_1, q_92_2, i_92_3, p_92_3, i_92_4, p_92_4, t_96, q_96_0, i_96_1, p_96_1, i_96_2, p_96_2, i_96_3, p_96_3, t_100, q_100_0, i_100_1, p_100_1, i_100_2, p_100_2, i_100_3, p_100_3, t_104, q_104_1, q_104_2, q_104_3, q_104_4, q_104_5, q_104_6, q_104_8, q_104_9, q_104_11, q_104_12, q_104_18, q_104_21, q_104_22, q_104_23, q_104_24, q_104_26, q_104_27, q_104_28, q_104_30, q_104_31, i_104_0, p_104_0, i_104_7, p_104_7, i_104_10, p_104_10, i_104_13, p_104_13, i_104_14, p_104_14, i_104_15, p_104_15, i_104_16, p_104_16, i_104_17, p_104_17, i_104_19, p_104_19, i_104_20, p_104_20, i_104_25, p_104_25, i_104_29, p_104_29, a_2, w_2, a_81, w_81, a_89, w_89, a_91, w_91, a_93, w_93, a_94, w_94, a_95, w_95, a_105, w_105, a_106, w_106, a_107, w_107, a_108, w_108, a_109, w_109, a_110, w_110, a_111, w_111, a_112, w_112, a_113, w_113, a_114, w_114, a_115, w_115, a_116, w_116, a_117, w_117, a_118, w_118, a_119, w_119, a_120, w_120, a_121, w_121, a_122, w_122, a_123, w_123, a_124, w_124, s_isSet g1 g2, if_pos c, s_total hc, eT]
        rw [hD]
        refine lp_last fun kc => ?_
        unfold BX10_shelve_30 CX10_shelve_30
        simp (disch := omega) only [J_add, J_sub, J_mul, J_lt, J_le, J_eq, xbr_true, xbr_false, xbr_pos, xbr_neg, Int.toNat_natCast, all_eq, ex_eq]
      · unfold PX11_shelve
        simp (disch := omega) only [J_add, J_sub, J_mul, J_lt, J_le, J_eq, xbr_true, xbr_false, xbr_pos, xbr_neg, Int.toNat_natCast, all_eq, ex_eq, t_0, q_0_0, q_0_1, q_0_2, q_0_3, q_0_4, q_0_5, q_0_6, q_0_7, q_0_8, q_0_9, i_0_10, p_0_10, i_0_11, p_0_11, i_0_12, p_0_12, t_1, q_1_0, t_3, q_3_0, q_3_1, i_3_2, p_3_2, i_3_3, p_3_3, t_80, q_80_0, t_88, q_88_0, t_90, q_90_0, t_92, q_92_0, q_92_1, q_92_2, i_92_3, p_92_3, i_92_4, p_92_4, t_96, q_96_0, i_96_1, p_96_1, i_96_2, p_96_2, i_96_3, p_96_3, t_100, q_100_0, i_100_1, p_100_1, i_100_2, p_100_2, i_100_3, p_100_3, t_104, q_104_1, q_104_2, q_104_3, q_104_4, q_104_5, q_104_6, q_104_8, q_104_9, q_104_11, q_104_12, q_104_18, q_104_21, q_104_22, q_104_23, q_104_24, q_104_26, q_104_27, q_104_28, q_104_30, q_104_31, i_104_0, p_104_0, i_104_7, p_104_7, i_104_10, p_104_10, i_104_13, p_104_13, i_104_14, p_104_14, i_104_15, p_104_15, i_104_16, p_104_16, i_104_17, p_104_17, i_104_19, p_104_19, i_104_20, p_104_20, i_104_25, p_104_25, i_104_29, p_104_29, a_2, w_2, a_81, w_81, a_89, w_89, a_91, w_91, a_93, w_93, a_94, w_94, a_95, w_95, a_105, w_105, a_106, w_106, a_107, w_107, a_108, w_108, a_109, w_109, a_110, w_110, a_111, w_111, a_112, w_112, a_113, w_113, a_114, w_114, a_115, w_115, a_116, w_116, a_117, w_117, a_118, w_118, a_119, w_119, a_120, w_120, a_121, w_121, a_122, w_122, a_123, w_123, a_124, w_124, m_areBooks g1 D0, if_pos c, m_allHabits (C := D) (by rw [D113]; exact hm), D113]
        rw [hE]
        refine lp_last fun kc => ?_
        unfold BX11_shelve_27 CX11_shelve_27
        simp (disch := omega) only [J_add, J_sub, J_mul, J_lt, J_le, J_eq, xbr_true, xbr_false, xbr_pos, xbr_neg, Int.toNat_natCast, all_eq, ex_eq, t_0, q_0_0, q_0_1, q_0_2, q_0_3, q_0_4, q_0_5, q_0_6, q_0_7, q_0_8, q_0_9, i_0_10, p_0_10, i_0_11, p_0_11, i_0_12, p_0_12, t_1, q_1_0, t_3, q_3_0, q_3_1, i_3_2, p_3_2, i_3_3, p_3_3, t_80, q_80_0, t_88, q_88_0, t_90, q_90_0, t_92, q_92_0, q_92_1, q_92_2, i_92_3, p_92_3, i_92_4, p_92_4, t_96, q_96_0, i_96_1, p_96_1, i_96_2, p_96_2, i_96_3, p_96_3, t_100, q_100_0, i_100_1, p_100_1, i_100_2, p_100_2, i_100_3, p_100_3, t_104, q_104_1, q_104_2, q_104_3, q_104_4, q_104_5, q_104_6, q_104_8, q_104_9, q_104_11, q_104_12, q_104_18, q_104_21, q_104_22, q_104_23, q_104_24, q_104_26, q_104_27, q_104_28, q_104_30, q_104_31, i_104_0, p_104_0, i_104_7, p_104_7, i_104_10, p_104_10, i_104_13, p_104_13, i_104_14, p_104_14, i_104_15, p_104_15, i_104_16, p_104_16, i_104_17, p_104_17, i_104_19, p_104_19, i_104_20, p_104_20, i_104_25, p_104_25, i_104_29, p_104_29, a_2, w_2, a_81, w_81, a_89, w_89, a_91, w_91, a_93, w_93, a_94, w_94, a_95, w_95, a_105, w_105, a_106, w_106, a_107, w_107, a_108, w_108, a_109, w_109, a_110, w_110, a_111, w_111, a_112, w_112, a_113, w_113, a_114, w_114, a_115, w_115, a_116, w_116, a_117, w_117, a_118, w_118, a_119, w_119, a_120, w_120, a_121, w_121, a_122, w_122, a_123, w_123, a_124, w_124, E0]
      · refine h.gen (fun a h0 ha => ?_) (fun j hj => ?_) ?_ ?_ ?_ ⟨d4.fr ?_ ?_ ?_, e4, o1⟩ (d5.fr ?_ ?_ ?_)
        · unfold freeO at ha
          rw [e1 a (by omega) (by omega) (by omega) (by omega) (by omega), d1 a h0 (by omega)]
        · rw [e2 _ (by omega) (by omega) (by omega), d1 _ (by omega) (by omega)]
        · have := h.2.2.1
          unfold GFault at *
          rw [e2 _ (by omega) (by omega) (by omega), d1 _ (by omega) (by omega), e1 _ (by omega) (by omega) (by omega) (by omega) (by omega), d2 _ (by omega)]
          exact this
        · have := h.2.2.2.1
          unfold GList at *
          rw [e2 _ (by omega) (by omega) (by omega), d1 _ (by omega) (by omega), e1 _ (by omega) (by omega) (by omega) (by omega) (by omega), d2 _ (by omega)]
          exact this
        · unfold GSeed
          rw [e3, e1 _ (by omega) (by omega) (by omega) (by omega) (by omega), d3]
          exact ⟨rfl, o2⟩
        all_goals rw [e1 _ (by omega) (by omega) (by omega) (by omega) (by omega)]
  · refine ⟨-1002, C, C, A, fun K => ?_, fun K => ?_, h⟩
    · unfold PX10_shelve
      simp (disch := omega) only [J_add, J_sub, J_mul, J_lt, J_le, J_eq, xbr_true, xbr_false, xbr_pos, xbr_neg, Int.toNat_natCast, all_eq, ex_eq, t_0, q_0_0, q_0_1, q_0_2, q_0_3, q_0_4, q_0_5, q_0_6, q_0_7, q_0_8, q_0_9, i_0_10, p_0_10, i_0_11, p_0_11, i_0_12, p_0_12, t_1, q_1_0, t_3, q_3_0, q_3_1, i_3_2, p_3_2, i_3_3, p_3_3, t_80, q_80_0, t_88, q_88_0, t_90, q_90_0, t_92, q_92_0, q_92_1, q_92_2, i_92_3, p_92_3, i_92_4, p_92_4, t_96, q_96_0, i_96_1, p_96_1, i_96_2, p_96_2, i_96_3, p_96_3, t_100, q_100_0, i_100_1, p_100_1, i_100_2, p_100_2, i_100_3, p_100_3, t_104, q_104_1, q_104_2, q_104_3, q_104_4, q_104_5, q_104_6, q_104_8, q_104_9, q_104_11, q_104_12, q_104_18, q_104_21, q_104_22, q_104_23, q_104_24, q_104_26, q_104_27, q_104_28, q_104_30, q_104_31, i_104_0, p_104_0, i_104_7, p_104_7, i_104_10, p_104_10, i_104_13, p_104_13, i_104_14, p_104_14, i_104_15, p_104_15, i_104_16, p_104_16, i_104_17, p_104_17, i_104_19, p_104_19, i_104_20, p_104_20, i_104_25, p_104_25, i_104_29, p_104_29, a_2, w_2, a_81, w_81, a_89, w_89, a_91, w_91, a_93, w_93, a_94, w_94, a_95, w_95, a_105, w_105, a_106, w_106, a_107, w_107, a_108, w_108, a_109, w_109, a_110, w_110, a_111, w_111, a_112, w_112, a_113, w_113, a_114, w_114, a_115, w_115, a_116, w_116, a_117, w_117, a_118, w_118, a_119, w_119, a_120, w_120, a_121, w_121, a_122, w_122, a_123, w_123, a_124, w_124, s_isSet g1 g2, if_neg c]
    · unfold PX11_shelve
      simp (disch := omega) only [J_add, J_sub, J_mul, J_lt, J_le, J_eq, xbr_true, xbr_false, xbr_pos, xbr_neg, Int.toNat_natCast, all_eq, ex_eq, t_0, q_0_0, q_0_1, q_0_2, q_0_3, q_0_4, q_0_5, q_0_6, q_0_7, q_0_8, q_0_9, i_0_10, p_0_10, i_0_11, p_0_11, i_0_12, p_0_12, t_1, q_1_0, t_3, q_3_0, q_3_1, i_3_2, p_3_2, i_3_3, p_3_3, t_80, q_80_0, t_88, q_88_0, t_90, q_90_0, t_92, q_92_0, q_92_1, q_92_2, i_92_3, p_92_3, i_92_4, p_92_4, t_96, q_96_0, i_96_1, p_96_1, i_96_2, p_96_2, i_96_3, p_96_3, t_100, q_100_0, i_100_1, p_100_1, i_100_2, p_100_2, i_100_3, p_100_3, t_104, q_104_1, q_104_2, q_104_3, q_104_4, q_104_5, q_104_6, q_104_8, q_104_9, q_104_11, q_104_12, q_104_18, q_104_21, q_104_22, q_104_23, q_104_24, q_104_26, q_104_27, q_104_28, q_104_30, q_104_31, i_104_0, p_104_0, i_104_7, p_104_7, i_104_10, p_104_10, i_104_13, p_104_13, i_104_14, p_104_14, i_104_15, p_104_15, i_104_16, p_104_16, i_104_17, p_104_17, i_104_19, p_104_19, i_104_20, p_104_20, i_104_25, p_104_25, i_104_29, p_104_29, a_2, w_2, a_81, w_81, a_89, w_89, a_91, w_91, a_93, w_93, a_94, w_94, a_95, w_95, a_105, w_105, a_106, w_106, a_107, w_107, a_108, w_108, a_109, w_109, a_110, w_110, a_111, w_111, a_112, w_112, a_113, w_113, a_114, w_114, a_115, w_115, a_116, w_116, a_117, w_117, a_118, w_118, a_119, w_119, a_120, w_120, a_121, w_121, a_122, w_122, a_123, w_123, a_124, w_124, m_areBooks g1 g4, if_neg c]
end SHV
