/-! IMAGES: keep, goBack -/
section IMG
variable {z : Nat} {g : Mem} {C C' : Nat → Nat → Int} {nb : Nat} {A A' : Rw}
theorem Inv.gen (h : Inv C nb A) (e : ∀ a, a ≠ 0 → ¬ freeO a → C' a = C a) (e104 : ∀ j, j = 0 ∨ j = 13 → C' 104 j = C 104 j) (hf : GFault C') (hl : GList C' nb) (hs : GSeed C') (hr : GRow C' nb A') (ht : RowOk C' 85) : Inv C' nb A' := by
  obtain ⟨h1, h2, h3, h4, h5, h6, h7, h8, h9, h10, h11⟩ := h
  unfold freeO at e
  exact ⟨h1.fr (e _ (by omega) (by omega)) (e _ (by omega) (by omega)) (e104 _ (by omega)) (e _ (by omega) (by omega)), h2.fr (e _ (by omega) (by omega)) (e104 _ (by omega)) (fun a _ _ => e _ (by omega) (by omega)) (fun a _ _ => e _ (by omega) (by omega)), hf, hl, hs, h6.fr (e _ (by omega) (by omega)) (e _ (by omega) (by omega)), hr, ht, h9.fr (e _ (by omega) (by omega)) (e _ (by omega) (by omega)), h10.fr (e _ (by omega) (by omega)) (fun a _ _ => e _ (by omega) (by omega)) (e _ (by omega) (by omega)) (e _ (by omega) (by omega)), h11.fr (e _ (by omega) (by omega)) (fun a _ _ => e _ (by omega) (by omega)) (e _ (by omega) (by omega)) (e _ (by omega) (by omega))⟩
theorem GImg.fr2 {i : Nat} (h : GImg C nb i) (e0 : C' (96 + 4 * i) = C (96 + 4 * i)) (e1 : ∀ a, 97 + 4 * i ≤ a → a ≤ 99 + 4 * i → C' a = C a) (e2 : ∀ j, 40 * i ≤ j → j < 40 * i + 40 → C' 123 j = C 123 j) (e3 : C' 124 i = C 124 i) : GImg C' nb i := by
  obtain ⟨h1, h2⟩ := h
  refine ⟨by rw [e0, e3]; exact h1, ?_⟩
  rcases h2 with h2 | ⟨h2, A', h3, h4, h5, h6, h7⟩
  · left; rw [e3]; exact h2
  · right
    refine ⟨by rw [e3]; exact h2, A', h3.fr (e1 _ (by omega) (by omega)) (e1 _ (by omega) (by omega)) (e1 _ (by omega) (by omega)), h4, ?_, by rw [e0, e2 _ (by omega) (by omega)]; exact h6, by rw [e0, e2 _ (by omega) (by omega)]; exact h7⟩
    obtain ⟨i1, i2, i3, i4⟩ := h5
    exact ⟨by rw [e2 _ (by omega) (by omega)]; exact i1, i2, fun k hk => by rw [e2 _ (by omega) (by omega)]; exact i3 k hk, fun s hs => by rw [e2 _ (by omega) (by omega)]; exact i4 s hs⟩
theorem rImg {x : Nat} (hx : x < 2) : isRow (97 + 4 * x) := by unfold isRow; omega
theorem s_isImage {M : Mem} {K : Int32 → Prop} {i : Int} (h1 : -2147483648 ≤ i) (h2 : i < 2147483648) : PX10_isImage (J i) M K = K (J (if 0 ≤ i ∧ i < 2 then 1 else 0)) := by
  unfold PX10_isImage
  by_cases c1 : i < 0
  · simp (disch := omega) only [J_add, J_sub, J_mul, J_lt, J_le, J_eq, xbr_true, xbr_false, xbr_pos, xbr_neg, Int.toNat_natCast, all_eq, ex_eq, isB0, true_and]
    rw [if_neg (by omega)]
  · by_cases c2 : i < 2
    · simp (disch := omega) only [J_add, J_sub, J_mul, J_lt, J_le, J_eq, xbr_true, xbr_false, xbr_pos, xbr_neg, Int.toNat_natCast, all_eq, ex_eq, isB1, true_and]
      rw [if_pos (by omega)]
    · simp (disch := omega) only [J_add, J_sub, J_mul, J_lt, J_le, J_eq, xbr_true, xbr_false, xbr_pos, xbr_neg, Int.toNat_natCast, all_eq, ex_eq, isB0, true_and]
      rw [if_neg (by omega)]
theorem s_imageOf {K : Nat → Prop} {x : Nat} (hx : x < 2) : PX10_imageOf (ad z 0) (J (x : Nat)) (lay z g C) K = K (ad z (96 + 4 * x)) := by
  unfold PX10_imageOf
  rcases (show x = 0 ∨ x = 1 by omega) with rfl | rfl
  · show _ = K (ad z 96)
    simp (disch := omega) only [J_add, J_sub, J_mul, J_lt, J_le, J_eq, xbr_true, xbr_false, xbr_pos, xbr_neg, Int.toNat_natCast, all_eq, ex_eq, t_0, q_0_0, q_0_1, q_0_2, q_0_3, q_0_4, q_0_5, q_0_6, q_0_7, q_0_8, q_0_9, i_0_10, p_0_10, i_0_11, p_0_11, i_0_12, p_0_12, t_1, q_1_0, t_3, q_3_0, q_3_1, i_3_2, p_3_2, i_3_3, p_3_3, t_80, q_80_0, t_88, q_88_0, t_90, q_90_0, t_92, q_92_0, q_92_1, q_92_2, i_92_3, p_92_3, i_92_4, p_92_4, t_96, q_96_0, i_96_1, p_96_1, i_96_2, p_96_2, i_96_3, p_96_3, t_100, q_100_0, i_100_1, p_100_1, i_100_2, p_100_2, i_100_3, p_100_3, t_104, q_104_1, q_104_2, q_104_3, q_104_4, q_104_5, q_104_6, q_104_8, q_104_9, q_104_11, q_104_12, q_104_18, q_104_21, q_104_22, q_104_23, q_104_24, q_104_26, q_104_27, q_104_28, q_104_30, q_104_31, i_104_0, p_104_0, i_104_7, p_104_7, i_104_10, p_104_10, i_104_13, p_104_13, i_104_14, p_104_14, i_104_15, p_104_15, i_104_16, p_104_16, i_104_17, p_104_17, i_104_19, p_104_19, i_104_20, p_104_20, i_104_25, p_104_25, i_104_29, p_104_29, a_2, w_2, a_81, w_81, a_89, w_89, a_91, w_91, a_93, w_93, a_94, w_94, a_95, w_95, a_105, w_105, a_106, w_106, a_107, w_107, a_108, w_108, a_109, w_109, a_110, w_110, a_111, w_111, a_112, w_112, a_113, w_113, a_114, w_114, a_115, w_115, a_116, w_116, a_117, w_117, a_118, w_118, a_119, w_119, a_120, w_120, a_121, w_121, a_122, w_122, a_123, w_123, a_124, w_124]
  · show _ = K (ad z 100)
    simp (disch := omega) only [J_add, J_sub, J_mul, J_lt, J_le, J_eq, xbr_true, xbr_false, xbr_pos, xbr_neg, Int.toNat_natCast, all_eq, ex_eq, t_0, q_0_0, q_0_1, q_0_2, q_0_3, q_0_4, q_0_5, q_0_6, q_0_7, q_0_8, q_0_9, i_0_10, p_0_10, i_0_11, p_0_11, i_0_12, p_0_12, t_1, q_1_0, t_3, q_3_0, q_3_1, i_3_2, p_3_2, i_3_3, p_3_3, t_80, q_80_0, t_88, q_88_0, t_90, q_90_0, t_92, q_92_0, q_92_1, q_92_2, i_92_3, p_92_3, i_92_4, p_92_4, t_96, q_96_0, i_96_1, p_96_1, i_96_2, p_96_2, i_96_3, p_96_3, t_100, q_100_0, i_100_1, p_100_1, i_100_2, p_100_2, i_100_3, p_100_3, t_104, q_104_1, q_104_2, q_104_3, q_104_4, q_104_5, q_104_6, q_104_8, q_104_9, q_104_11, q_104_12, q_104_18, q_104_21, q_104_22, q_104_23, q_104_24, q_104_26, q_104_27, q_104_28, q_104_30, q_104_31, i_104_0, p_104_0, i_104_7, p_104_7, i_104_10, p_104_10, i_104_13, p_104_13, i_104_14, p_104_14, i_104_15, p_104_15, i_104_16, p_104_16, i_104_17, p_104_17, i_104_19, p_104_19, i_104_20, p_104_20, i_104_25, p_104_25, i_104_29, p_104_29, a_2, w_2, a_81, w_81, a_89, w_89, a_91, w_91, a_93, w_93, a_94, w_94, a_95, w_95, a_105, w_105, a_106, w_106, a_107, w_107, a_108, w_108, a_109, w_109, a_110, w_110, a_111, w_111, a_112, w_112, a_113, w_113, a_114, w_114, a_115, w_115, a_116, w_116, a_117, w_117, a_118, w_118, a_119, w_119, a_120, w_120, a_121, w_121, a_122, w_122, a_123, w_123, a_124, w_124]
theorem s_store {K : Mem → Prop} {x : Nat} (hx : x < 2) {l sd : Int} : PX4_store (ad z (96 + 4 * x)) (ad z 82) (J l) (J sd) (lay z g C) K = K (lay z g (up (up (up (cpC C (97 + 4 * x) 82 24) (96 + 4 * x) 1 l) (96 + 4 * x) 2 sd) (96 + 4 * x) 3 1)) := by
  rcases (show x = 0 ∨ x = 1 by omega) with rfl | rfl
  · show PX4_store (ad z 96) (ad z 82) (J l) (J sd) (lay z g C) K = K (lay z g (up (up (up (cpC C 97 82 24) 96 1 l) 96 2 sd) 96 3 1))
    unfold PX4_store
    simp (disch := omega) only [J_add, J_sub, J_mul, J_lt, J_le, J_eq, xbr_true, xbr_false, xbr_pos, xbr_neg, Int.toNat_natCast, all_eq, ex_eq, t_0, q_0_0, q_0_1, q_0_2, q_0_3, q_0_4, q_0_5, q_0_6, q_0_7, q_0_8, q_0_9, i_0_10, p_0_10, i_0_11, p_0_11, i_0_12, p_0_12, t_1, q_1_0, t_3, q_3_0, q_3_1, i_3_2, p_3_2, i_3_3, p_3_3, t_80, q_80_0, t_88, q_88_0, t_90, q_90_0, t_92, q_92_0, q_92_1, q_92_2, i_92_3, p_92_3, i_92_4, p_92_4, t_96, q_96_0, i_96_1, p_96_1, i_96_2, p_96_2, i_96_3, p_96_3, t_100, q_100_0, i_100_1, p_100_1, i_100_2, p_100_2, i_100_3, p_100_3, t_104, q_104_1, q_104_2, q_104_3, q_104_4, q_104_5, q_104_6, q_104_8, q_104_9, q_104_11, q_104_12, q_104_18, q_104_21, q_104_22, q_104_23, q_104_24, q_104_26, q_104_27, q_104_28, q_104_30, q_104_31, i_104_0, p_104_0, i_104_7, p_104_7, i_104_10, p_104_10, i_104_13, p_104_13, i_104_14, p_104_14, i_104_15, p_104_15, i_104_16, p_104_16, i_104_17, p_104_17, i_104_19, p_104_19, i_104_20, p_104_20, i_104_25, p_104_25, i_104_29, p_104_29, a_2, w_2, a_81, w_81, a_89, w_89, a_91, w_91, a_93, w_93, a_94, w_94, a_95, w_95, a_105, w_105, a_106, w_106, a_107, w_107, a_108, w_108, a_109, w_109, a_110, w_110, a_111, w_111, a_112, w_112, a_113, w_113, a_114, w_114, a_115, w_115, a_116, w_116, a_117, w_117, a_118, w_118, a_119, w_119, a_120, w_120, a_121, w_121, a_122, w_122, a_123, w_123, a_124, w_124, s_copyFrom (r := 97) (rImg (x := 0) (by omega)) r82 (by omega)]
  · show PX4_store (ad z 100) (ad z 82) (J l) (J sd) (lay z g C) K = K (lay z g (up (up (up (cpC C 101 82 24) 100 1 l) 100 2 sd) 100 3 1))
    unfold PX4_store
    simp (disch := omega) only [J_add, J_sub, J_mul, J_lt, J_le, J_eq, xbr_true, xbr_false, xbr_pos, xbr_neg, Int.toNat_natCast, all_eq, ex_eq, t_0, q_0_0, q_0_1, q_0_2, q_0_3, q_0_4, q_0_5, q_0_6, q_0_7, q_0_8, q_0_9, i_0_10, p_0_10, i_0_11, p_0_11, i_0_12, p_0_12, t_1, q_1_0, t_3, q_3_0, q_3_1, i_3_2, p_3_2, i_3_3, p_3_3, t_80, q_80_0, t_88, q_88_0, t_90, q_90_0, t_92, q_92_0, q_92_1, q_92_2, i_92_3, p_92_3, i_92_4, p_92_4, t_96, q_96_0, i_96_1, p_96_1, i_96_2, p_96_2, i_96_3, p_96_3, t_100, q_100_0, i_100_1, p_100_1, i_100_2, p_100_2, i_100_3, p_100_3, t_104, q_104_1, q_104_2, q_104_3, q_104_4, q_104_5, q_104_6, q_104_8, q_104_9, q_104_11, q_104_12, q_104_18, q_104_21, q_104_22, q_104_23, q_104_24, q_104_26, q_104_27, q_104_28, q_104_30, q_104_31, i_104_0, p_104_0, i_104_7, p_104_7, i_104_10, p_104_10, i_104_13, p_104_13, i_104_14, p_104_14, i_104_15, p_104_15, i_104_16, p_104_16, i_104_17, p_104_17, i_104_19, p_104_19, i_104_20, p_104_20, i_104_25, p_104_25, i_104_29, p_104_29, a_2, w_2, a_81, w_81, a_89, w_89, a_91, w_91, a_93, w_93, a_94, w_94, a_95, w_95, a_105, w_105, a_106, w_106, a_107, w_107, a_108, w_108, a_109, w_109, a_110, w_110, a_111, w_111, a_112, w_112, a_113, w_113, a_114, w_114, a_115, w_115, a_116, w_116, a_117, w_117, a_118, w_118, a_119, w_119, a_120, w_120, a_121, w_121, a_122, w_122, a_123, w_123, a_124, w_124, s_copyFrom (r := 101) (rImg (x := 1) (by omega)) r82 (by omega)]
/-- what the reference keeps -/
def kpI (C : Nat → Nat → Int) (x n m : Nat) : Nat → Nat → Int := fun a j => if a = 123 ∧ j = 40 * x then C 104 7 else if a = 123 ∧ j = 40 * x + 1 then C 104 10 else if a = 123 ∧ j = 40 * x + 2 then C 104 29 else if a = 123 ∧ 40 * x + 3 ≤ j ∧ j < 40 * x + 3 + n then C 112 (j - (40 * x + 3)) else if a = 123 ∧ 40 * x + 11 ≤ j ∧ j < 40 * x + 11 + m then C 111 (j - (40 * x + 11)) else C a j
theorem kpI_ne {x n m a : Nat} (h : a ≠ 123) : kpI C x n m a = C a := by
  funext j; unfold kpI
  rw [if_neg (fun q => h q.1), if_neg (fun q => h q.1), if_neg (fun q => h q.1), if_neg (fun q => h q.1), if_neg (fun q => h q.1)]
theorem m_keep {K : Int32 → Mem → Prop} {x : Nat} (hx : x < 2) : PX11_keep (ad z 104) (J (x : Nat)) (lay z g C) K = K (J 1) (lay z g (up (kpI C x 8 24) 124 x 1)) := by
  unfold PX11_keep
  simp (disch := omega) only [J_add, J_sub, J_mul, J_lt, J_le, J_eq, xbr_true, xbr_false, xbr_pos, xbr_neg, Int.toNat_natCast, all_eq, ex_eq, t_0, q_0_0, q_0_1, q_0_2, q_0_3, q_0_4, q_0_5, q_0_6, q_0_7, q_0_8, q_0_9, i_0_10, p_0_10, i_0_11, p_0_11, i_0_12, p_0_12, t_1, q_1_0, t_3, q_3_0, q_3_1, i_3_2, p_3_2, i_3_3, p_3_3, t_80, q_80_0, t_88, q_88_0, t_90, q_90_0, t_92, q_92_0, q_92_1, q_92_2, i_92_3, p_92_3, i_92_4, p_92_4, t_96, q_96_0, i_96_1, p_96_1, i_96_2, p_96_2, i_96_3, p_96_3, t_100, q_100_0, i_100_1, p_100_1, i_100_2, p_100_2, i_100_3, p_100_3, t_104, q_104_1, q_104_2, q_104_3, q_104_4, q_104_5, q_104_6, q_104_8, q_104_9, q_104_11, q_104_12, q_104_18, q_104_21, q_104_22, q_104_23, q_104_24, q_104_26, q_104_27, q_104_28, q_104_30, q_104_31, i_104_0, p_104_0, i_104_7, p_104_7, i_104_10, p_104_10, i_104_13, p_104_13, i_104_14, p_104_14, i_104_15, p_104_15, i_104_16, p_104_16, i_104_17, p_104_17, i_104_19, p_104_19, i_104_20, p_104_20, i_104_25, p_104_25, i_104_29, p_104_29, a_2, w_2, a_81, w_81, a_89, w_89, a_91, w_91, a_93, w_93, a_94, w_94, a_95, w_95, a_105, w_105, a_106, w_106, a_107, w_107, a_108, w_108, a_109, w_109, a_110, w_110, a_111, w_111, a_112, w_112, a_113, w_113, a_114, w_114, a_115, w_115, a_116, w_116, a_117, w_117, a_118, w_118, a_119, w_119, a_120, w_120, a_121, w_121, a_122, w_122, a_123, w_123, a_124, w_124, J_long, m_in, if_pos (show 0 ≤ (x : Int) ∧ (x : Int) ≤ 1 by omega)]
  have t0 : (40 * (x : Int)).toNat = 40 * x := by omega
  have t1 : (40 * (x : Int) + 1).toNat = 40 * x + 1 := by omega
  have t2 : (40 * (x : Int) + 2).toNat = 40 * x + 2 := by omega
  rw [t0, t1, t2]
  have e0 : up (up (up C 123 (40 * x) (C 104 7)) 123 (40 * x + 1) (up C 123 (40 * x) (C 104 7) 104 10)) 123 (40 * x + 2) (up (up C 123 (40 * x) (C 104 7)) 123 (40 * x + 1) (up C 123 (40 * x) (C 104 7) 104 10) 104 29) = kpI C x 0 0 := by
    rw [up_ne (a := 104) (by omega), up_ne (a := 104) (by omega), up_ne (a := 104) (by omega)]
    funext a j
    simp only [up, kpI]
    repeat' split
    all_goals first | rfl | omega
  rw [e0]
  refine lp_for (fun s : Nat => (lay z g (kpI C x s 0), J (s : Int))) 0 8 _ (by omega) ?_ ?_
  · intro s _ hs kc
    unfold BX11_keep_55 CX11_keep_55
    simp (disch := omega) only [J_add, J_sub, J_mul, J_lt, J_le, J_eq, xbr_true, xbr_false, xbr_pos, xbr_neg, Int.toNat_natCast, all_eq, ex_eq, t_0, q_0_0, q_0_1, q_0_2, q_0_3, q_0_4, q_0_5, q_0_6, q_0_7, q_0_8, q_0_9, i_0_10, p_0_10, i_0_11, p_0_11, i_0_12, p_0_12, t_1, q_1_0, t_3, q_3_0, q_3_1, i_3_2, p_3_2, i_3_3, p_3_3, t_80, q_80_0, t_88, q_88_0, t_90, q_90_0, t_92, q_92_0, q_92_1, q_92_2, i_92_3, p_92_3, i_92_4, p_92_4, t_96, q_96_0, i_96_1, p_96_1, i_96_2, p_96_2, i_96_3, p_96_3, t_100, q_100_0, i_100_1, p_100_1, i_100_2, p_100_2, i_100_3, p_100_3, t_104, q_104_1, q_104_2, q_104_3, q_104_4, q_104_5, q_104_6, q_104_8, q_104_9, q_104_11, q_104_12, q_104_18, q_104_21, q_104_22, q_104_23, q_104_24, q_104_26, q_104_27, q_104_28, q_104_30, q_104_31, i_104_0, p_104_0, i_104_7, p_104_7, i_104_10, p_104_10, i_104_13, p_104_13, i_104_14, p_104_14, i_104_15, p_104_15, i_104_16, p_104_16, i_104_17, p_104_17, i_104_19, p_104_19, i_104_20, p_104_20, i_104_25, p_104_25, i_104_29, p_104_29, a_2, w_2, a_81, w_81, a_89, w_89, a_91, w_91, a_93, w_93, a_94, w_94, a_95, w_95, a_105, w_105, a_106, w_106, a_107, w_107, a_108, w_108, a_109, w_109, a_110, w_110, a_111, w_111, a_112, w_112, a_113, w_113, a_114, w_114, a_115, w_115, a_116, w_116, a_117, w_117, a_118, w_118, a_119, w_119, a_120, w_120, a_121, w_121, a_122, w_122, a_123, w_123, a_124, w_124]
    have t3 : (40 * (x : Int) + 3 + (s : Int)).toNat = 40 * x + 3 + s := by omega
    rw [t3, kpI_ne (a := 112) (by omega)]
    have e1 : up (kpI C x s 0) 123 (40 * x + 3 + s) (C 112 s) = kpI C x (s + 1) 0 := by
      funext a j
      simp only [up, kpI]
      by_cases j1 : j = 40 * x + 3 + s
      · subst j1
        rw [show 40 * x + 3 + s - (40 * x + 3) = s by omega]
        repeat' split
        all_goals first | rfl | omega
      · repeat' split
        all_goals first | rfl | omega
    rw [e1]; rfl
  · intro kc
    unfold BX11_keep_55 CX11_keep_55
    simp (disch := omega) only [J_add, J_sub, J_mul, J_lt, J_le, J_eq, xbr_true, xbr_false, xbr_pos, xbr_neg, Int.toNat_natCast, all_eq, ex_eq]
    refine lp_for (fun s : Nat => (lay z g (kpI C x 8 s), J (s : Int))) 0 24 _ (by omega) ?_ ?_
    · intro s _ hs kc
      unfold BX11_keep_85 CX11_keep_85
      simp (disch := omega) only [J_add, J_sub, J_mul, J_lt, J_le, J_eq, xbr_true, xbr_false, xbr_pos, xbr_neg, Int.toNat_natCast, all_eq, ex_eq, t_0, q_0_0, q_0_1, q_0_2, q_0_3, q_0_4, q_0_5, q_0_6, q_0_7, q_0_8, q_0_9, i_0_10, p_0_10, i_0_11, p_0_11, i_0_12, p_0_12, t_1, q_1_0, t_3, q_3_0, q_3_1, i_3_2, p_3_2, i_3_3, p_3_3, t_80, q_80_0, t_88, q_88_0, t_90, q_90_0, t_92, q_92_0, q_92_1, q_92_2, i_92_3, p_92_3, i_92_4, p_92_4, t_96, q_96_0, i_96_1, p_96_1, i_96_2, p_96_2, i_96_3, p_96_3, t_100, q_100_0, i_100_1, p_100_1, i_100_2, p_100_2, i_100_3, p_100_3, t_104, q_104_1, q_104_2, q_104_3, q_104_4, q_104_5, q_104_6, q_104_8, q_104_9, q_104_11, q_104_12, q_104_18, q_104_21, q_104_22, q_104_23, q_104_24, q_104_26, q_104_27, q_104_28, q_104_30, q_104_31, i_104_0, p_104_0, i_104_7, p_104_7, i_104_10, p_104_10, i_104_13, p_104_13, i_104_14, p_104_14, i_104_15, p_104_15, i_104_16, p_104_16, i_104_17, p_104_17, i_104_19, p_104_19, i_104_20, p_104_20, i_104_25, p_104_25, i_104_29, p_104_29, a_2, w_2, a_81, w_81, a_89, w_89, a_91, w_91, a_93, w_93, a_94, w_94, a_95, w_95, a_105, w_105, a_106, w_106, a_107, w_107, a_108, w_108, a_109, w_109, a_110, w_110, a_111, w_111, a_112, w_112, a_113, w_113, a_114, w_114, a_115, w_115, a_116, w_116, a_117, w_117, a_118, w_118, a_119, w_119, a_120, w_120, a_121, w_121, a_122, w_122, a_123, w_123, a_124, w_124]
      have t3 : (40 * (x : Int) + 11 + (s : Int)).toNat = 40 * x + 11 + s := by omega
      rw [t3, kpI_ne (a := 111) (by omega)]
      have e1 : up (kpI C x 8 s) 123 (40 * x + 11 + s) (C 111 s) = kpI C x 8 (s + 1) := by
        funext a j
        simp only [up, kpI]
        by_cases j1 : j = 40 * x + 11 + s
        · subst j1
          rw [show 40 * x + 11 + s - (40 * x + 11) = s by omega]
          repeat' split
          all_goals first | rfl | omega
        · repeat' split
          all_goals first | rfl | omega
      rw [e1]; rfl
    · intro kc
      unfold BX11_keep_85 CX11_keep_85
      simp (disch := omega) only [J_add, J_sub, J_mul, J_lt, J_le, J_eq, xbr_true, xbr_false, xbr_pos, xbr_neg, Int.toNat_natCast, all_eq, ex_eq, t_0, q_0_0, q_0_1, q_0_2, q_0_3, q_0_4, q_0_5, q_0_6, q_0_7, q_0_8, q_0_9, i_0_10, p_0_10, i_0_11, p_0_11, i_0_12, p_0_12, t_1, q_1_0, t_3, q_3_0, q_3_1, i_3_2, p_3_2, i_3_3, p_3_3, t_80, q_80_0, t_88, q_88_0, t_90, q_90_0, t_92, q_92_0, q_92_1, q_92_2, i_92_3, p_92_3, i_92_4, p_92_4, t_96, q_96_0, i_96_1, p_96_1, i_96_2, p_96_2, i_96_3, p_96_3, t_100, q_100_0, i_100_1, p_100_1, i_100_2, p_100_2, i_100_3, p_100_3, t_104, q_104_1, q_104_2, q_104_3, q_104_4, q_104_5, q_104_6, q_104_8, q_104_9, q_104_11, q_104_12, q_104_18, q_104_21, q_104_22, q_104_23, q_104_24, q_104_26, q_104_27, q_104_28, q_104_30, q_104_31, i_104_0, p_104_0, i_104_7, p_104_7, i_104_10, p_104_10, i_104_13, p_104_13, i_104_14, p_104_14, i_104_15, p_104_15, i_104_16, p_104_16, i_104_17, p_104_17, i_104_19, p_104_19, i_104_20, p_104_20, i_104_25, p_104_25, i_104_29, p_104_29, a_2, w_2, a_81, w_81, a_89, w_89, a_91, w_91, a_93, w_93, a_94, w_94, a_95, w_95, a_105, w_105, a_106, w_106, a_107, w_107, a_108, w_108, a_109, w_109, a_110, w_110, a_111, w_111, a_112, w_112, a_113, w_113, a_114, w_114, a_115, w_115, a_116, w_116, a_117, w_117, a_118, w_118, a_119, w_119, a_120, w_120, a_121, w_121, a_122, w_122, a_123, w_123, a_124, w_124]
theorem op_keep (h : Inv C nb A) {i : Int} (hi : -2147483648 ≤ i ∧ i < 2147483648) : ∃ (r : Int) (C1 C2 : Nat → Nat → Int), (∀ K, PX10_keep (ad z 0) (J i) (lay z g C) K = K (J r) (lay z g C1)) ∧ (∀ K, PX11_keep (ad z 104) (J i) (lay z g C1) K = K (J r) (lay z g C2)) ∧ Inv C2 nb A := by
  by_cases c : 0 ≤ i ∧ i < 2
  · obtain ⟨x, rfl⟩ : ∃ x : Nat, i = x := ⟨i.toNat, by omega⟩
    have hx : x < 2 := by omega
    obtain ⟨C1, hC1⟩ : ∃ C1, C1 = up (up (up (cpC C (97 + 4 * x) 82 24) (96 + 4 * x) 1 (C 0 11)) (96 + 4 * x) 2 (C 0 12)) (96 + 4 * x) 3 1 := ⟨_, rfl⟩
    have f1 : ∀ a, a < 96 + 4 * x ∨ 99 + 4 * x < a → C1 a = C a := fun a ha => by
      rw [hC1, up_ne (by omega), up_ne (by omega), up_ne (by omega), cpC_ne (by omega)]
    have f2 : ∀ a, a ≠ 123 → a ≠ 124 → up (kpI C1 x 8 24) 124 x 1 a = C1 a := fun a h1 h2 => by rw [up_ne h2, kpI_ne h1]
    refine ⟨1, C1, up (kpI C1 x 8 24) 124 x 1, fun K => ?_, fun K => m_keep hx, ?_⟩
    · unfold PX10_keep
      simp (disch := omega) only [J_add, J_sub, J_mul, J_lt, J_le, J_eq, xbr_true, xbr_false, xbr_pos, xbr_neg, Int.toNat_natCast, all_eq, ex_eq, t_0, q_0_0, q_0_1, q_0_2, q_0_3, q_0_4, q_0_5, q_0_6, q_0_7, q_0_8, q_0_9, i_0_10, p_0_10, i_0_11, p_0_11, i_0_12, p_0_12, t_1, q_1_0, t_3, q_3_0, q_3_1, i_3_2, p_3_2, i_3_3, p_3_3, t_80, q_80_0, t_88, q_88_0, t_90, q_90_0, t_92, q_92_0, q_92_1, q_92_2, i_92_3, p_92_3, i_92_4, p_92_4, t_96, q_96_0, i_96_1, p_96_1, i_96_2, p_96_2, i_96_3, p_96_3, t_100, q_100_0, i_100_1, p_100_1, i_100_2, p_100_2, i_100_3, p_100_3, t_104, q_104_1, q_104_2, q_104_3, q_104_4, q_104_5, q_104_6, q_104_8, q_104_9, q_104_11, q_104_12, q_104_18, q_104_21, q_104_22, q_104_23, q_104_24, q_104_26, q_104_27, q_104_28, q_104_30, q_104_31, i_104_0, p_104_0, i_104_7, p_104_7, i_104_10, p_104_10, i_104_13, p_104_13, i_104_14, p_104_14, i_104_15, p_104_15, i_104_16, p_104_16, i_104_17, p_104_17, i_104_19, p_104_19, i_104_20, p_104_20, i_104_25, p_104_25, i_104_29, p_104_29, a_2, w_2, a_81, w_81, a_89, w_89, a_91, w_91, a_93, w_93, a_94, w_94, a_95, w_95, a_105, w_105, a_106, w_106, a_107, w_107, a_108, w_108, a_109, w_109, a_110, w_110, a_111, w_111, a_112, w_112, a_113, w_113, a_114, w_114, a_115, w_115, a_116, w_116, a_117, w_117, a_118, w_118, a_119, w_119, a_120, w_120, a_121, w_121, a_122, w_122, a_123, w_123, a_124, w_124, s_isImage, if_pos (show 0 ≤ (x : Int) ∧ (x : Int) < 2 by omega), s_imageOf hx, s_store hx, ← hC1]
    · obtain ⟨h1, h2, h3, h4, h5, h6, h7, h8, h9, h10, h11⟩ := h
      have e : ∀ a, a < 96 ∨ 103 < a → a ≠ 123 → a ≠ 124 → up (kpI C1 x 8 24) 124 x 1 a = C a := fun a ha q1 q2 => by rw [f2 a q1 q2, f1 a (by omega)]
      obtain ⟨k1, k2, k3⟩ := h7
      have hn := h2.1
      have eI : ∀ y, y < 2 → y ≠ x → GImg C nb y → GImg (up (kpI C1 x 8 24) 124 x 1) nb y := fun y hy hyx hg => by
        refine hg.fr2 ?_ (fun a _ _ => ?_) (fun j _ _ => ?_) ?_
        · rw [f2 _ (by omega) (by omega), f1 _ (by omega)]
        · rw [f2 _ (by omega) (by omega), f1 _ (by omega)]
        · rw [up_ne (by omega), ← f1 123 (by omega)]
          unfold kpI
          rw [if_neg (by omega), if_neg (by omega), if_neg (by omega), if_neg (by omega), if_neg (by omega)]
        · rw [up_nk hyx, kpI_ne (by omega), f1 _ (by omega)]
      have nI : GImg (up (kpI C1 x 8 24) 124 x 1) nb x := by
        have v1 : C1 (96 + 4 * x) 1 = C 0 11 := by rw [hC1, up_nk (by omega), up_nk (by omega), up_eq]
        have v2 : C1 (96 + 4 * x) 2 = C 0 12 := by rw [hC1, up_nk (by omega), up_eq]
        have v3 : C1 (96 + 4 * x) 3 = 1 := by rw [hC1, up_eq]
        have w : ∀ j, up (kpI C1 x 8 24) 124 x 1 123 j = kpI C1 x 8 24 123 j := fun j => by rw [up_ne (by omega)]
        have vr : ∀ a, 97 + 4 * x ≤ a → a ≤ 99 + 4 * x → up (kpI C1 x 8 24) 124 x 1 a = cpC C (97 + 4 * x) 82 24 a := fun a q1 q2 => by
          rw [f2 a (by omega) (by omega), hC1, up_ne (by omega), up_ne (by omega), up_ne (by omega)]
        refine ⟨by rw [f2 _ (by omega) (by omega), v3, up_eq], Or.inr ⟨up_eq, A, (k1.cp k3 hn).fr (vr _ (by omega) (by omega)) (vr _ (by omega) (by omega)) (vr _ (by omega) (by omega)), k3, ⟨?_, k2.2.1, fun k hk => ?_, fun s hs => ?_⟩, ?_, ?_⟩⟩
        · rw [w]; unfold kpI; rw [if_pos ⟨rfl, rfl⟩, f1 _ (by omega)]; exact k2.1
        · have := k2.2.1
          rw [w]; unfold kpI
          rw [if_neg (by omega), if_neg (by omega), if_neg (by omega), if_neg (by omega), if_pos (by omega), f1 _ (by omega), show 40 * x + 11 + k - (40 * x + 11) = k by omega]
          exact k2.2.2.1 k hk
        · rw [w]; unfold kpI
          rw [if_neg (by omega), if_neg (by omega), if_neg (by omega), if_pos (by omega), f1 _ (by omega), show 40 * x + 3 + s - (40 * x + 3) = s by omega]
          exact k2.2.2.2 s hs
        · have e1 : kpI C1 x 8 24 123 (40 * x + 1) = C 104 10 := by
            unfold kpI; rw [if_neg (by omega), if_pos ⟨rfl, rfl⟩, f1 _ (by omega)]
          rw [w, f2 _ (by omega) (by omega), v1, e1]
          have := h4
          unfold GList at this
          rw [this.1]; exact ⟨rfl, this.2⟩
        · have e1 : kpI C1 x 8 24 123 (40 * x + 2) = C 104 29 := by
            unfold kpI; rw [if_neg (by omega), if_neg (by omega), if_pos ⟨rfl, rfl⟩, f1 _ (by omega)]
          rw [w, f2 _ (by omega) (by omega), v2, e1]
          have := h5
          unfold GSeed at this
          rw [this.1]; exact ⟨rfl, this.2⟩
      refine ⟨h1.fr (e _ (by omega) (by omega) (by omega)) (e _ (by omega) (by omega) (by omega)) (by rw [e _ (by omega) (by omega) (by omega)]) (e _ (by omega) (by omega) (by omega)), h2.fr (e _ (by omega) (by omega) (by omega)) (by rw [e _ (by omega) (by omega) (by omega)]) (fun a _ _ => e _ (by omega) (by omega) (by omega)) (fun a _ _ => e _ (by omega) (by omega) (by omega)), ?_, ?_, ?_, h6.fr (e _ (by omega) (by omega) (by omega)) (e _ (by omega) (by omega) (by omega)), GRow.fr ⟨k1, k2, k3⟩ (fun a _ _ => e _ (by omega) (by omega) (by omega)) (by rw [e _ (by omega) (by omega) (by omega)]) (e _ (by omega) (by omega) (by omega)) (e _ (by omega) (by omega) (by omega)), h8.fr (e _ (by omega) (by omega) (by omega)) (e _ (by omega) (by omega) (by omega)) (e _ (by omega) (by omega) (by omega)), h9.fr (e _ (by omega) (by omega) (by omega)) (e _ (by omega) (by omega) (by omega)), ?_, ?_⟩
      · unfold GFault at *
        rw [e _ (by omega) (by omega) (by omega), e _ (by omega) (by omega) (by omega)]; exact h3
      · unfold GList at *
        rw [e _ (by omega) (by omega) (by omega), e _ (by omega) (by omega) (by omega)]; exact h4
      · unfold GSeed at *
        rw [e _ (by omega) (by omega) (by omega), e _ (by omega) (by omega) (by omega)]; exact h5
      · by_cases q : 0 = x
        · subst q; exact nI
        · exact eI 0 (by omega) q h10
      · by_cases q : 1 = x
        · subst q; exact nI
        · exact eI 1 (by omega) q h11
  · refine ⟨-1001, C, C, fun K => ?_, fun K => ?_, h⟩
    · unfold PX10_keep
      simp (disch := omega) only [J_add, J_sub, J_mul, J_lt, J_le, J_eq, xbr_true, xbr_false, xbr_pos, xbr_neg, Int.toNat_natCast, all_eq, ex_eq, t_0, q_0_0, q_0_1, q_0_2, q_0_3, q_0_4, q_0_5, q_0_6, q_0_7, q_0_8, q_0_9, i_0_10, p_0_10, i_0_11, p_0_11, i_0_12, p_0_12, t_1, q_1_0, t_3, q_3_0, q_3_1, i_3_2, p_3_2, i_3_3, p_3_3, t_80, q_80_0, t_88, q_88_0, t_90, q_90_0, t_92, q_92_0, q_92_1, q_92_2, i_92_3, p_92_3, i_92_4, p_92_4, t_96, q_96_0, i_96_1, p_96_1, i_96_2, p_96_2, i_96_3, p_96_3, t_100, q_100_0, i_100_1, p_100_1, i_100_2, p_100_2, i_100_3, p_100_3, t_104, q_104_1, q_104_2, q_104_3, q_104_4, q_104_5, q_104_6, q_104_8, q_104_9, q_104_11, q_104_12, q_104_18, q_104_21, q_104_22, q_104_23, q_104_24, q_104_26, q_104_27, q_104_28, q_104_30, q_104_31, i_104_0, p_104_0, i_104_7, p_104_7, i_104_10, p_104_10, i_104_13, p_104_13, i_104_14, p_104_14, i_104_15, p_104_15, i_104_16, p_104_16, i_104_17, p_104_17, i_104_19, p_104_19, i_104_20, p_104_20, i_104_25, p_104_25, i_104_29, p_104_29, a_2, w_2, a_81, w_81, a_89, w_89, a_91, w_91, a_93, w_93, a_94, w_94, a_95, w_95, a_105, w_105, a_106, w_106, a_107, w_107, a_108, w_108, a_109, w_109, a_110, w_110, a_111, w_111, a_112, w_112, a_113, w_113, a_114, w_114, a_115, w_115, a_116, w_116, a_117, w_117, a_118, w_118, a_119, w_119, a_120, w_120, a_121, w_121, a_122, w_122, a_123, w_123, a_124, w_124, s_isImage, if_neg c]
    · unfold PX11_keep
      simp (disch := omega) only [J_add, J_sub, J_mul, J_lt, J_le, J_eq, xbr_true, xbr_false, xbr_pos, xbr_neg, Int.toNat_natCast, all_eq, ex_eq, t_0, q_0_0, q_0_1, q_0_2, q_0_3, q_0_4, q_0_5, q_0_6, q_0_7, q_0_8, q_0_9, i_0_10, p_0_10, i_0_11, p_0_11, i_0_12, p_0_12, t_1, q_1_0, t_3, q_3_0, q_3_1, i_3_2, p_3_2, i_3_3, p_3_3, t_80, q_80_0, t_88, q_88_0, t_90, q_90_0, t_92, q_92_0, q_92_1, q_92_2, i_92_3, p_92_3, i_92_4, p_92_4, t_96, q_96_0, i_96_1, p_96_1, i_96_2, p_96_2, i_96_3, p_96_3, t_100, q_100_0, i_100_1, p_100_1, i_100_2, p_100_2, i_100_3, p_100_3, t_104, q_104_1, q_104_2, q_104_3, q_104_4, q_104_5, q_104_6, q_104_8, q_104_9, q_104_11, q_104_12, q_104_18, q_104_21, q_104_22, q_104_23, q_104_24, q_104_26, q_104_27, q_104_28, q_104_30, q_104_31, i_104_0, p_104_0, i_104_7, p_104_7, i_104_10, p_104_10, i_104_13, p_104_13, i_104_14, p_104_14, i_104_15, p_104_15, i_104_16, p_104_16, i_104_17, p_104_17, i_104_19, p_104_19, i_104_20, p_104_20, i_104_25, p_104_25, i_104_29, p_104_29, a_2, w_2, a_81, w_81, a_89, w_89, a_91, w_91, a_93, w_93, a_94, w_94, a_95, w_95, a_105, w_105, a_106, w_106, a_107, w_107, a_108, w_108, a_109, w_109, a_110, w_110, a_111, w_111, a_112, w_112, a_113, w_113, a_114, w_114, a_115, w_115, a_116, w_116, a_117, w_117, a_118, w_118, a_119, w_119, a_120, w_120, a_121, w_121, a_122, w_122, a_123, w_123, a_124, w_124, J_long, m_in]
end IMG
