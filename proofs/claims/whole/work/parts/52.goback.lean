/-! IMAGES: goBack -/
section GOB
variable {z : Nat} {g : Mem} {C C' : Nat → Nat → Int} {nb : Nat} {A A' : Rw}
/-- the first shelf below 8 whose books are wider than it -/
def overA (W w : Nat → Int) (A : Rw) : Nat := fst1 8 (fun s => decide (rmA W w A s < 0))
theorem s_hold {K : Int32 → Prop} {r : Nat} (hr : isRow r) (h : RowC C r A) (hA : RwOk A nb) (hS : Sm C nb) : PX8_hold (ad z 80) (ad z r) (ad z 3) (lay z g C) K = K (J (if overA (C 81) (wC C) A < 8 then 0 else 1)) := by
  unfold PX8_hold
  simp (disch := omega) only [J_add, J_sub, J_mul, J_lt, J_le, J_eq, xbr_true, xbr_false, xbr_pos, xbr_neg, Int.toNat_natCast, all_eq, ex_eq, t_0, q_0_0, q_0_1, q_0_2, q_0_3, q_0_4, q_0_5, q_0_6, q_0_7, q_0_8, q_0_9, i_0_10, p_0_10, i_0_11, p_0_11, i_0_12, p_0_12, t_1, q_1_0, t_3, q_3_0, q_3_1, i_3_2, p_3_2, i_3_3, p_3_3, t_80, q_80_0, t_88, q_88_0, t_90, q_90_0, t_92, q_92_0, q_92_1, q_92_2, i_92_3, p_92_3, i_92_4, p_92_4, t_96, q_96_0, i_96_1, p_96_1, i_96_2, p_96_2, i_96_3, p_96_3, t_100, q_100_0, i_100_1, p_100_1, i_100_2, p_100_2, i_100_3, p_100_3, t_104, q_104_1, q_104_2, q_104_3, q_104_4, q_104_5, q_104_6, q_104_8, q_104_9, q_104_11, q_104_12, q_104_18, q_104_21, q_104_22, q_104_23, q_104_24, q_104_26, q_104_27, q_104_28, q_104_30, q_104_31, i_104_0, p_104_0, i_104_7, p_104_7, i_104_10, p_104_10, i_104_13, p_104_13, i_104_14, p_104_14, i_104_15, p_104_15, i_104_16, p_104_16, i_104_17, p_104_17, i_104_19, p_104_19, i_104_20, p_104_20, i_104_25, p_104_25, i_104_29, p_104_29, a_2, w_2, a_81, w_81, a_89, w_89, a_91, w_91, a_93, w_93, a_94, w_94, a_95, w_95, a_105, w_105, a_106, w_106, a_107, w_107, a_108, w_108, a_109, w_109, a_110, w_110, a_111, w_111, a_112, w_112, a_113, w_113, a_114, w_114, a_115, w_115, a_116, w_116, a_117, w_117, a_118, w_118, a_119, w_119, a_120, w_120, a_121, w_121, a_122, w_122, a_123, w_123, a_124, w_124]
  have h5 : overA (C 81) (wC C) A ≤ 8 := fst1_le _ _
  have hl := h.len
  refine lp_for (fun i : Nat => J (i : Int)) 0 (overA (C 81) (wC C) A) _ (by omega) ?_ ?_
  · intro i _ hi kc
    have h6 := fst1_lt hi
    have h7 := rmA_b hS hA hl (s := i) (by omega)
    have h9 : ¬ rmA (C 81) (wC C) A i < 0 := by simpa using h6
    unfold BX8_hold_2 CX8_hold_2
    simp (disch := omega) only [J_add, J_sub, J_mul, J_lt, J_le, J_eq, xbr_true, xbr_false, xbr_pos, xbr_neg, Int.toNat_natCast, all_eq, ex_eq, s_left hr h hA hS.1 hS.2.1 hS.2.2.1 (show i < 8 by omega) (hS.2.2.2 i (by omega))]
    simp
  · intro kc
    unfold BX8_hold_2 CX8_hold_2
    by_cases c : overA (C 81) (wC C) A < 8
    · have h6 := fst1_at c
      have h7 := rmA_b hS hA hl (s := overA (C 81) (wC C) A) c
      have h9 : rmA (C 81) (wC C) A (overA (C 81) (wC C) A) < 0 := by unfold overA at h6 ⊢; simpa using h6
      rw [if_pos c]
      simp (disch := omega) only [J_add, J_sub, J_mul, J_lt, J_le, J_eq, xbr_true, xbr_false, xbr_pos, xbr_neg, Int.toNat_natCast, all_eq, ex_eq, s_left hr h hA hS.1 hS.2.1 hS.2.2.1 c (hS.2.2.2 _ c), isB0, true_and]
    · rw [if_neg c]
      simp (disch := omega) only [J_add, J_sub, J_mul, J_lt, J_le, J_eq, xbr_true, xbr_false, xbr_pos, xbr_neg, Int.toNat_natCast, all_eq, ex_eq, isB1, true_and]
/-- the reference's row out of an image -/
def gbI (C : Nat → Nat → Int) (x n m : Nat) : Nat → Nat → Int := fun a j => if a = 104 ∧ j = 7 then C 123 (40 * x) else if a = 112 ∧ j < n then C 123 (40 * x + 3 + j) else if a = 111 ∧ j < m then C 123 (40 * x + 11 + j) else C a j
theorem gbI_ne {x n m a : Nat} (h : a ≠ 104 ∧ a ≠ 111 ∧ a ≠ 112) : gbI C x n m a = C a := by
  funext j; unfold gbI
  rw [if_neg (fun q => h.1 q.1), if_neg (fun q => h.2.2 q.1), if_neg (fun q => h.2.1 q.1)]
theorem gbI_104 {x n m j : Nat} (h : j ≠ 7) : gbI C x n m 104 j = C 104 j := by
  unfold gbI
  rw [if_neg (fun q => h q.2), if_neg (by omega), if_neg (by omega)]
theorem RowM.gb {x : Nat} (h : ImgM C x A) : RowM (gbI C x 8 24) A := by
  obtain ⟨i1, i2, i3, i4⟩ := h
  refine ⟨?_, i2, fun k hk => ?_, fun s hs => ?_⟩
  · unfold gbI; rw [if_pos ⟨rfl, rfl⟩]; exact i1
  · unfold gbI; rw [if_neg (by omega), if_neg (by omega), if_pos (by omega)]; exact i3 k hk
  · unfold gbI; rw [if_neg (by omega), if_pos (by omega)]; exact i4 s hs
theorem m_gob112 {K : Int32 → Mem → Prop} {x : Nat} (hx : x < 2) (k2 : RowM C A) (k3 : RwOk A nb) (hS : SmM C nb) : lp (BX11_goBack_112 K (lay z g C) (ad z 104) (J (40 * (x : Int)))) (J 1, J 0) = if overA (C 110) (C 109) A < 8 then K (J (-1003)) (lay z g (bakC C 25 8)) else K (J 1) (lay z g (up (up C 104 10 (C 123 (40 * x + 1))) 104 29 (C 123 (40 * x + 2)))) := by
  have h5 : overA (C 110) (C 109) A ≤ 8 := fst1_le _ _
  have hl := k2.2.1
  have st : (J 1, J 0) = (fun i : Nat => (J (if i ≤ overA (C 110) (C 109) A then 1 else 0), J (i : Int))) 0 := by
    show _ = (J _, J _)
    rw [if_pos (by omega)]; rfl
  rw [st]
  refine lp_for (fun i : Nat => (J (if i ≤ overA (C 110) (C 109) A then 1 else 0), J (i : Int))) 0 8 _ (by omega) ?_ ?_
  · intro i _ hi kc
    have h7 := rmM_b hS k3 hl (s := i) hi
    unfold BX11_goBack_112 CX11_goBack_112
    by_cases c : i ≤ overA (C 110) (C 109) A
    · by_cases c2 : i < overA (C 110) (C 109) A
      · have h6 := fst1_lt c2
        have h9 : ¬ rmA (C 110) (C 109) A i < 0 := by simpa using h6
        rw [if_pos c, if_pos (show i + 1 ≤ _ by omega)]
        simp (disch := omega) only [J_add, J_sub, J_mul, J_lt, J_le, J_eq, xbr_true, xbr_false, xbr_pos, xbr_neg, Int.toNat_natCast, all_eq, ex_eq, m_roomOn k2 k3 hS.1 hS.2.1 (s := i) hi]
        rfl
      · have e : i = overA (C 110) (C 109) A := by omega
        have h6 := fst1_at (n := 8) (f := fun s => decide (rmA (C 110) (C 109) A s < 0)) (by show overA (C 110) (C 109) A < 8; omega)
        have h9 : rmA (C 110) (C 109) A i < 0 := by rw [e]; unfold overA at h6 ⊢; simpa using h6
        rw [if_pos c, if_neg (show ¬ i + 1 ≤ _ by omega)]
        simp (disch := omega) only [J_add, J_sub, J_mul, J_lt, J_le, J_eq, xbr_true, xbr_false, xbr_pos, xbr_neg, Int.toNat_natCast, all_eq, ex_eq, m_roomOn k2 k3 hS.1 hS.2.1 (s := i) hi]
        rfl
    · rw [if_neg c, if_neg (show ¬ i + 1 ≤ _ by omega)]
      simp (disch := omega) only [J_add, J_sub, J_mul, J_lt, J_le, J_eq, xbr_true, xbr_false, xbr_pos, xbr_neg, Int.toNat_natCast, all_eq, ex_eq]
      rfl
  · intro kc
    unfold BX11_goBack_112 CX11_goBack_112
    have t1 : (40 * (x : Int) + 1).toNat = 40 * x + 1 := by omega
    have t2 : (40 * (x : Int) + 2).toNat = 40 * x + 2 := by omega
    by_cases c : overA (C 110) (C 109) A < 8
    · rw [if_pos c, if_neg (show ¬ 8 ≤ _ by omega)]
      simp (disch := omega) only [J_add, J_sub, J_mul, J_lt, J_le, J_eq, xbr_true, xbr_false, xbr_pos, xbr_neg, Int.toNat_natCast, all_eq, ex_eq, m_back]
    · rw [if_neg c, if_pos (show 8 ≤ _ by omega)]
      simp (disch := omega) only [J_add, J_sub, J_mul, J_lt, J_le, J_eq, xbr_true, xbr_false, xbr_pos, xbr_neg, Int.toNat_natCast, all_eq, ex_eq, t_0, q_0_0, q_0_1, q_0_2, q_0_3, q_0_4, q_0_5, q_0_6, q_0_7, q_0_8, q_0_9, i_0_10, p_0_10, i_0_11, p_0_11, i_0_12, p_0_12, t_1, q_1_0, t_3, q_3_0, q_3_1, i_3_2, p_3_2, i_3_3, p_3_3, t_80, q_80_0, t_88, q_88_0, t_90, q_90_0, t_92, q_92_0, q_92_1, q_92_2, i_92_3, p_92_3, i_92_4, p_92_4, t_96, q_96_0, i_96_1, p_96_1, i_96_2, p_96_2, i_96_3, p_96_3, t_100, q_100_0, i_100_1, p_100_1, i_100_2, p_100_2, i_100_3, p_100_3, t_104, q_104_1, q_104_2, q_104_3, q_104_4, q_104_5, q_104_6, q_104_8, q_104_9, q_104_11, q_104_12, q_104_18, q_104_21, q_104_22, q_104_23, q_104_24, q_104_26, q_104_27, q_104_28, q_104_30, q_104_31, i_104_0, p_104_0, i_104_7, p_104_7, i_104_10, p_104_10, i_104_13, p_104_13, i_104_14, p_104_14, i_104_15, p_104_15, i_104_16, p_104_16, i_104_17, p_104_17, i_104_19, p_104_19, i_104_20, p_104_20, i_104_25, p_104_25, i_104_29, p_104_29, a_2, w_2, a_81, w_81, a_89, w_89, a_91, w_91, a_93, w_93, a_94, w_94, a_95, w_95, a_105, w_105, a_106, w_106, a_107, w_107, a_108, w_108, a_109, w_109, a_110, w_110, a_111, w_111, a_112, w_112, a_113, w_113, a_114, w_114, a_115, w_115, a_116, w_116, a_117, w_117, a_118, w_118, a_119, w_119, a_120, w_120, a_121, w_121, a_122, w_122, a_123, w_123, a_124, w_124, t1, t2]
      rw [up_ne (a := 123) (by omega)]
theorem m_gob48 {K : Int32 → Mem → Prop} {x : Nat} (hx : x < 2) : lp (BX11_goBack_48 K (ad z 104) (J (40 * (x : Int)))) (lay z g (up C 104 7 (C 123 (40 * x))), J 0) = lp (BX11_goBack_112 K (lay z g (gbI C x 8 24)) (ad z 104) (J (40 * (x : Int)))) (J 1, J 0) := by
  have e0 : up C 104 7 (C 123 (40 * x)) = gbI C x 0 0 := by
    funext a j
    simp only [up, gbI]
    repeat' split
    all_goals first | rfl | omega
  rw [e0]
  refine lp_for (fun s : Nat => (lay z g (gbI C x s 0), J (s : Int))) 0 8 _ (by omega) ?_ ?_
  · intro s _ hs kc
    unfold BX11_goBack_48 CX11_goBack_48
    simp (disch := omega) only [J_add, J_sub, J_mul, J_lt, J_le, J_eq, xbr_true, xbr_false, xbr_pos, xbr_neg, Int.toNat_natCast, all_eq, ex_eq, t_0, q_0_0, q_0_1, q_0_2, q_0_3, q_0_4, q_0_5, q_0_6, q_0_7, q_0_8, q_0_9, i_0_10, p_0_10, i_0_11, p_0_11, i_0_12, p_0_12, t_1, q_1_0, t_3, q_3_0, q_3_1, i_3_2, p_3_2, i_3_3, p_3_3, t_80, q_80_0, t_88, q_88_0, t_90, q_90_0, t_92, q_92_0, q_92_1, q_92_2, i_92_3, p_92_3, i_92_4, p_92_4, t_96, q_96_0, i_96_1, p_96_1, i_96_2, p_96_2, i_96_3, p_96_3, t_100, q_100_0, i_100_1, p_100_1, i_100_2, p_100_2, i_100_3, p_100_3, t_104, q_104_1, q_104_2, q_104_3, q_104_4, q_104_5, q_104_6, q_104_8, q_104_9, q_104_11, q_104_12, q_104_18, q_104_21, q_104_22, q_104_23, q_104_24, q_104_26, q_104_27, q_104_28, q_104_30, q_104_31, i_104_0, p_104_0, i_104_7, p_104_7, i_104_10, p_104_10, i_104_13, p_104_13, i_104_14, p_104_14, i_104_15, p_104_15, i_104_16, p_104_16, i_104_17, p_104_17, i_104_19, p_104_19, i_104_20, p_104_20, i_104_25, p_104_25, i_104_29, p_104_29, a_2, w_2, a_81, w_81, a_89, w_89, a_91, w_91, a_93, w_93, a_94, w_94, a_95, w_95, a_105, w_105, a_106, w_106, a_107, w_107, a_108, w_108, a_109, w_109, a_110, w_110, a_111, w_111, a_112, w_112, a_113, w_113, a_114, w_114, a_115, w_115, a_116, w_116, a_117, w_117, a_118, w_118, a_119, w_119, a_120, w_120, a_121, w_121, a_122, w_122, a_123, w_123, a_124, w_124]
    have t3 : (40 * (x : Int) + 3 + (s : Int)).toNat = 40 * x + 3 + s := by omega
    rw [t3, gbI_ne (a := 123) (by omega)]
    have e1 : up (gbI C x s 0) 112 s (C 123 (40 * x + 3 + s)) = gbI C x (s + 1) 0 := by
      funext a j
      simp only [up, gbI]
      by_cases j1 : j = s
      · subst j1
        repeat' split
        all_goals first | rfl | omega
      · repeat' split
        all_goals first | rfl | omega
    rw [e1]; rfl
  · intro kc
    unfold BX11_goBack_48 CX11_goBack_48
    simp (disch := omega) only [J_add, J_sub, J_mul, J_lt, J_le, J_eq, xbr_true, xbr_false, xbr_pos, xbr_neg, Int.toNat_natCast, all_eq, ex_eq]
    refine lp_for (fun s : Nat => (lay z g (gbI C x 8 s), J (s : Int))) 0 24 _ (by omega) ?_ ?_
    · intro s _ hs kc
      unfold BX11_goBack_78 CX11_goBack_78
      simp (disch := omega) only [J_add, J_sub, J_mul, J_lt, J_le, J_eq, xbr_true, xbr_false, xbr_pos, xbr_neg, Int.toNat_natCast, all_eq, ex_eq, t_0, q_0_0, q_0_1, q_0_2, q_0_3, q_0_4, q_0_5, q_0_6, q_0_7, q_0_8, q_0_9, i_0_10, p_0_10, i_0_11, p_0_11, i_0_12, p_0_12, t_1, q_1_0, t_3, q_3_0, q_3_1, i_3_2, p_3_2, i_3_3, p_3_3, t_80, q_80_0, t_88, q_88_0, t_90, q_90_0, t_92, q_92_0, q_92_1, q_92_2, i_92_3, p_92_3, i_92_4, p_92_4, t_96, q_96_0, i_96_1, p_96_1, i_96_2, p_96_2, i_96_3, p_96_3, t_100, q_100_0, i_100_1, p_100_1, i_100_2, p_100_2, i_100_3, p_100_3, t_104, q_104_1, q_104_2, q_104_3, q_104_4, q_104_5, q_104_6, q_104_8, q_104_9, q_104_11, q_104_12, q_104_18, q_104_21, q_104_22, q_104_23, q_104_24, q_104_26, q_104_27, q_104_28, q_104_30, q_104_31, i_104_0, p_104_0, i_104_7, p_104_7, i_104_10, p_104_10, i_104_13, p_104_13, i_104_14, p_104_14, i_104_15, p_104_15, i_104_16, p_104_16, i_104_17, p_104_17, i_104_19, p_104_19, i_104_20, p_104_20, i_104_25, p_104_25, i_104_29, p_104_29, a_2, w_2, a_81, w_81, a_89, w_89, a_91, w_91, a_93, w_93, a_94, w_94, a_95, w_95, a_105, w_105, a_106, w_106, a_107, w_107, a_108, w_108, a_109, w_109, a_110, w_110, a_111, w_111, a_112, w_112, a_113, w_113, a_114, w_114, a_115, w_115, a_116, w_116, a_117, w_117, a_118, w_118, a_119, w_119, a_120, w_120, a_121, w_121, a_122, w_122, a_123, w_123, a_124, w_124]
      have t3 : (40 * (x : Int) + 11 + (s : Int)).toNat = 40 * x + 11 + s := by omega
      rw [t3, gbI_ne (a := 123) (by omega)]
      have e1 : up (gbI C x 8 s) 111 s (C 123 (40 * x + 11 + s)) = gbI C x 8 (s + 1) := by
        funext a j
        simp only [up, gbI]
        by_cases j1 : j = s
        · subst j1
          repeat' split
          all_goals first | rfl | omega
        · repeat' split
          all_goals first | rfl | omega
      rw [e1]; rfl
    · intro kc
      unfold BX11_goBack_78 CX11_goBack_78
      simp (disch := omega) only [J_add, J_sub, J_mul, J_lt, J_le, J_eq, xbr_true, xbr_false, xbr_pos, xbr_neg, Int.toNat_natCast, all_eq, ex_eq]
theorem overA_congr {W W' w w' : Nat → Int} (hA : RwOk A nb) (hW : ∀ s, s < 8 → W s = W' s) (hw : ∀ b, b < nb → w b = w' b) : overA W w A = overA W' w' A := by
  refine fst1_congr fun s hs => ?_
  unfold rmA
  rw [hW s hs, usedA_congr hA hs hw]
theorem op_goBack (h : Inv C nb A) {i : Int} (hi : -2147483648 ≤ i ∧ i < 2147483648) : ∃ (r : Int) (C1 C2 : Nat → Nat → Int) (A2 : Rw), (∀ K, PX10_goBack (ad z 0) (J i) (lay z g C) K = K (J r) (lay z g C1)) ∧ (∀ K, PX11_goBack (ad z 104) (J i) (lay z g C1) K = K (J r) (lay z g C2)) ∧ Inv C2 nb A2 := by
  by_cases c : 0 ≤ i ∧ i < 2
  · obtain ⟨x, rfl⟩ : ∃ x : Nat, i = x := ⟨i.toNat, by omega⟩
    have hx : x < 2 := by omega
    have hI : GImg C nb x := by
      rcases (show x = 0 ∨ x = 1 by omega) with rfl | rfl
      · exact h.2.2.2.2.2.2.2.2.2.1
      · exact h.2.2.2.2.2.2.2.2.2.2
    obtain ⟨i1, i2⟩ := hI
    obtain ⟨k1, k2, k3⟩ := h.2.2.2.2.2.2.1
    have hl24 := k2.2.1
    have t0 : (40 * (x : Int)).toNat = 40 * x := by omega
    have cls : ∀ K, PX10_goBack (ad z 0) (J (x : Nat)) (lay z g C) K = xbr (J (C (96 + 4 * x) 3) = J 0) (K (J (-1003)) (lay z g C)) (PX8_hold (ad z 80) (ad z (97 + 4 * x)) (ad z 3) (lay z g C) fun r11 => xbr (r11 = J 0) (K (J (-1003)) (lay z g C)) (K (J 1) (lay z g (up (up (cpC C 82 (97 + 4 * x) 24) 0 11 (C (96 + 4 * x) 1)) 0 12 (C (96 + 4 * x) 2))))) := by
      intro K
      unfold PX10_goBack
      rcases (show x = 0 ∨ x = 1 by omega) with rfl | rfl
      · show _ = xbr (J (C 96 3) = J 0) (K (J (-1003)) (lay z g C)) (PX8_hold (ad z 80) (ad z 97) (ad z 3) (lay z g C) fun r11 => xbr (r11 = J 0) (K (J (-1003)) (lay z g C)) (K (J 1) (lay z g (up (up (cpC C 82 97 24) 0 11 (C 96 1)) 0 12 (C 96 2)))))
        have io := fun K => s_imageOf (z := z) (g := g) (C := C) (K := K) (x := 0) (by omega)
        simp only [show (96 + 4 * 0 : Nat) = 96 from rfl] at io
        simp (disch := omega) only [J_add, J_sub, J_mul, J_lt, J_le, J_eq, xbr_true, xbr_false, xbr_pos, xbr_neg, Int.toNat_natCast, all_eq, ex_eq, t_0, q_0_0, q_0_1, q_0_2, q_0_3, q_0_4, q_0_5, q_0_6, q_0_7, q_0_8, q_0_9, i_0_10, p_0_10, i_0_11, p_0_11, i_0_12, p_0_12, t_1, q_1_0, t_3, q_3_0, q_3_1, i_3_2, p_3_2, i_3_3, p_3_3, t_80, q_80_0, t_88, q_88_0, t_90, q_90_0, t_92, q_92_0, q_92_1, q_92_2, i_92_3, p_92_3, i_92_4, p_92_4, t_96, q_96_0, i_96_1, p_96_1, i_96_2, p_96_2, i_96_3, p_96_3, t_100, q_100_0, i_100_1, p_100_1, i_100_2, p_100_2, i_100_3, p_100_3, t_104, q_104_1, q_104_2, q_104_3, q_104_4, q_104_5, q_104_6, q_104_8, q_104_9, q_104_11, q_104_12, q_104_18, q_104_21, q_104_22, q_104_23, q_104_24, q_104_26, q_104_27, q_104_28, q_104_30, q_104_31, i_104_0, p_104_0, i_104_7, p_104_7, i_104_10, p_104_10, i_104_13, p_104_13, i_104_14, p_104_14, i_104_15, p_104_15, i_104_16, p_104_16, i_104_17, p_104_17, i_104_19, p_104_19, i_104_20, p_104_20, i_104_25, p_104_25, i_104_29, p_104_29, a_2, w_2, a_81, w_81, a_89, w_89, a_91, w_91, a_93, w_93, a_94, w_94, a_95, w_95, a_105, w_105, a_106, w_106, a_107, w_107, a_108, w_108, a_109, w_109, a_110, w_110, a_111, w_111, a_112, w_112, a_113, w_113, a_114, w_114, a_115, w_115, a_116, w_116, a_117, w_117, a_118, w_118, a_119, w_119, a_120, w_120, a_121, w_121, a_122, w_122, a_123, w_123, a_124, w_124, s_isImage, if_pos (show 0 ≤ ((0 : Nat) : Int) ∧ ((0 : Nat) : Int) < 2 by omega), io, s_copyFrom r82 (rImg (x := 0) (by omega)) (by omega)]
        rfl
      · show _ = xbr (J (C 100 3) = J 0) (K (J (-1003)) (lay z g C)) (PX8_hold (ad z 80) (ad z 101) (ad z 3) (lay z g C) fun r11 => xbr (r11 = J 0) (K (J (-1003)) (lay z g C)) (K (J 1) (lay z g (up (up (cpC C 82 101 24) 0 11 (C 100 1)) 0 12 (C 100 2)))))
        have io := fun K => s_imageOf (z := z) (g := g) (C := C) (K := K) (x := 1) (by omega)
        simp only [show (96 + 4 * 1 : Nat) = 100 from rfl] at io
        simp (disch := omega) only [J_add, J_sub, J_mul, J_lt, J_le, J_eq, xbr_true, xbr_false, xbr_pos, xbr_neg, Int.toNat_natCast, all_eq, ex_eq, t_0, q_0_0, q_0_1, q_0_2, q_0_3, q_0_4, q_0_5, q_0_6, q_0_7, q_0_8, q_0_9, i_0_10, p_0_10, i_0_11, p_0_11, i_0_12, p_0_12, t_1, q_1_0, t_3, q_3_0, q_3_1, i_3_2, p_3_2, i_3_3, p_3_3, t_80, q_80_0, t_88, q_88_0, t_90, q_90_0, t_92, q_92_0, q_92_1, q_92_2, i_92_3, p_92_3, i_92_4, p_92_4, t_96, q_96_0, i_96_1, p_96_1, i_96_2, p_96_2, i_96_3, p_96_3, t_100, q_100_0, i_100_1, p_100_1, i_100_2, p_100_2, i_100_3, p_100_3, t_104, q_104_1, q_104_2, q_104_3, q_104_4, q_104_5, q_104_6, q_104_8, q_104_9, q_104_11, q_104_12, q_104_18, q_104_21, q_104_22, q_104_23, q_104_24, q_104_26, q_104_27, q_104_28, q_104_30, q_104_31, i_104_0, p_104_0, i_104_7, p_104_7, i_104_10, p_104_10, i_104_13, p_104_13, i_104_14, p_104_14, i_104_15, p_104_15, i_104_16, p_104_16, i_104_17, p_104_17, i_104_19, p_104_19, i_104_20, p_104_20, i_104_25, p_104_25, i_104_29, p_104_29, a_2, w_2, a_81, w_81, a_89, w_89, a_91, w_91, a_93, w_93, a_94, w_94, a_95, w_95, a_105, w_105, a_106, w_106, a_107, w_107, a_108, w_108, a_109, w_109, a_110, w_110, a_111, w_111, a_112, w_112, a_113, w_113, a_114, w_114, a_115, w_115, a_116, w_116, a_117, w_117, a_118, w_118, a_119, w_119, a_120, w_120, a_121, w_121, a_122, w_122, a_123, w_123, a_124, w_124, s_isImage, if_pos (show 0 ≤ ((1 : Nat) : Int) ∧ ((1 : Nat) : Int) < 2 by omega), io, s_copyFrom r82 (rImg (x := 1) (by omega)) (by omega)]
        rfl
    rcases i2 with i2 | ⟨i2, B, b1, b2, b3, ⟨b4, b5, b6⟩, ⟨b7, b8, b9⟩⟩
    · refine ⟨-1003, C, C, A, fun K => ?_, fun K => ?_, h⟩
      · rw [cls, i1, i2, xbr_pos rfl]
      · unfold PX11_goBack
        simp (disch := omega) only [J_add, J_sub, J_mul, J_lt, J_le, J_eq, xbr_true, xbr_false, xbr_pos, xbr_neg, Int.toNat_natCast, all_eq, ex_eq, t_0, q_0_0, q_0_1, q_0_2, q_0_3, q_0_4, q_0_5, q_0_6, q_0_7, q_0_8, q_0_9, i_0_10, p_0_10, i_0_11, p_0_11, i_0_12, p_0_12, t_1, q_1_0, t_3, q_3_0, q_3_1, i_3_2, p_3_2, i_3_3, p_3_3, t_80, q_80_0, t_88, q_88_0, t_90, q_90_0, t_92, q_92_0, q_92_1, q_92_2, i_92_3, p_92_3, i_92_4, p_92_4, t_96, q_96_0, i_96_1, p_96_1, i_96_2, p_96_2, i_96_3, p_96_3, t_100, q_100_0, i_100_1, p_100_1, i_100_2, p_100_2, i_100_3, p_100_3, t_104, q_104_1, q_104_2, q_104_3, q_104_4, q_104_5, q_104_6, q_104_8, q_104_9, q_104_11, q_104_12, q_104_18, q_104_21, q_104_22, q_104_23, q_104_24, q_104_26, q_104_27, q_104_28, q_104_30, q_104_31, i_104_0, p_104_0, i_104_7, p_104_7, i_104_10, p_104_10, i_104_13, p_104_13, i_104_14, p_104_14, i_104_15, p_104_15, i_104_16, p_104_16, i_104_17, p_104_17, i_104_19, p_104_19, i_104_20, p_104_20, i_104_25, p_104_25, i_104_29, p_104_29, a_2, w_2, a_81, w_81, a_89, w_89, a_91, w_91, a_93, w_93, a_94, w_94, a_95, w_95, a_105, w_105, a_106, w_106, a_107, w_107, a_108, w_108, a_109, w_109, a_110, w_110, a_111, w_111, a_112, w_112, a_113, w_113, a_114, w_114, a_115, w_115, a_116, w_116, a_117, w_117, a_118, w_118, a_119, w_119, a_120, w_120, a_121, w_121, a_122, w_122, a_123, w_123, a_124, w_124, J_long, m_in, if_pos (show 0 ≤ (x : Int) ∧ (x : Int) ≤ 1 by omega), i2]
    · have hh := fun K => s_hold (z := z) (g := g) (K := K) (rImg hx) b1 b2 h.sm
      have ov : overA (C 81) (wC C) B = overA (C 110) (C 109) B := overA_congr b2 h.W h.w
      rw [ov] at hh
      by_cases o : overA (C 110) (C 109) B < 8
      · obtain ⟨s1, s2⟩ := k2.sav
        have q123 : savC C 25 8 123 = C 123 := savC_ne (by omega)
        have b3' : ImgM (savC C 25 8) x B := by unfold ImgM at *; rw [q123]; exact b3
        have rm := RowM.gb b3'
        have hSM : SmM (gbI (savC C 25 8) x 8 24) nb := ⟨h.smm.1, by rw [gbI_ne (by omega), savC_ne (by omega)]; exact h.smm.2.1, by rw [gbI_ne (by omega), savC_ne (by omega)]; exact h.smm.2.2⟩
        have mg := fun K => m_gob112 (z := z) (g := g) (K := K) hx rm b2 hSM
        rw [gbI_ne (a := 110) (by omega), gbI_ne (a := 109) (by omega), savC_ne (a := 110) (by omega), savC_ne (a := 109) (by omega)] at mg
        simp only [if_pos o] at mg
        have was : WasM (gbI (savC C 25 8) x 8 24) A := s2.fr (gbI_104 (by omega)) (gbI_ne (by omega)) (gbI_ne (by omega))
        refine ⟨-1003, C, bakC (gbI (savC C 25 8) x 8 24) 25 8, A, fun K => ?_, fun K => ?_, ?_⟩
        · rw [cls, i1, i2, xbr_neg (by decide), hh, if_pos o, xbr_pos rfl]
        · unfold PX11_goBack
          simp (disch := omega) only [J_add, J_sub, J_mul, J_lt, J_le, J_eq, xbr_true, xbr_false, xbr_pos, xbr_neg, Int.toNat_natCast, all_eq, ex_eq, t_0, q_0_0, q_0_1, q_0_2, q_0_3, q_0_4, q_0_5, q_0_6, q_0_7, q_0_8, q_0_9, i_0_10, p_0_10, i_0_11, p_0_11, i_0_12, p_0_12, t_1, q_1_0, t_3, q_3_0, q_3_1, i_3_2, p_3_2, i_3_3, p_3_3, t_80, q_80_0, t_88, q_88_0, t_90, q_90_0, t_92, q_92_0, q_92_1, q_92_2, i_92_3, p_92_3, i_92_4, p_92_4, t_96, q_96_0, i_96_1, p_96_1, i_96_2, p_96_2, i_96_3, p_96_3, t_100, q_100_0, i_100_1, p_100_1, i_100_2, p_100_2, i_100_3, p_100_3, t_104, q_104_1, q_104_2, q_104_3, q_104_4, q_104_5, q_104_6, q_104_8, q_104_9, q_104_11, q_104_12, q_104_18, q_104_21, q_104_22, q_104_23, q_104_24, q_104_26, q_104_27, q_104_28, q_104_30, q_104_31, i_104_0, p_104_0, i_104_7, p_104_7, i_104_10, p_104_10, i_104_13, p_104_13, i_104_14, p_104_14, i_104_15, p_104_15, i_104_16, p_104_16, i_104_17, p_104_17, i_104_19, p_104_19, i_104_20, p_104_20, i_104_25, p_104_25, i_104_29, p_104_29, a_2, w_2, a_81, w_81, a_89, w_89, a_91, w_91, a_93, w_93, a_94, w_94, a_95, w_95, a_105, w_105, a_106, w_106, a_107, w_107, a_108, w_108, a_109, w_109, a_110, w_110, a_111, w_111, a_112, w_112, a_113, w_113, a_114, w_114, a_115, w_115, a_116, w_116, a_117, w_117, a_118, w_118, a_119, w_119, a_120, w_120, a_121, w_121, a_122, w_122, a_123, w_123, a_124, w_124, J_long, m_in, if_pos (show 0 ≤ (x : Int) ∧ (x : Int) ≤ 1 by omega), i2, m_save, t0]
          rw [m_gob48 hx, mg]
        · refine h.work (fun a ha => ?_) (fun j hj => ?_) ⟨k1.fr ?_ ?_ ?_, was.bak hl24, k3⟩ (h.2.2.2.2.2.2.2.1.fr ?_ ?_ ?_)
          · unfold freeO at ha
            rw [bakC_ne (by omega), gbI_ne (by omega), savC_ne (by omega)]
          · rw [bakC_104 (by omega), gbI_104 (by omega), savC_104 (by omega)]
          all_goals rw [bakC_ne (by omega), gbI_ne (by omega), savC_ne (by omega)]
      · obtain ⟨C1, hC1⟩ : ∃ C1, C1 = up (up (cpC C 82 (97 + 4 * x) 24) 0 11 (C (96 + 4 * x) 1)) 0 12 (C (96 + 4 * x) 2) := ⟨_, rfl⟩
        have f1 : ∀ a, a ≠ 0 → a < 82 ∨ 84 < a → C1 a = C a := fun a h0 ha => by rw [hC1, up_ne h0, up_ne h0, cpC_ne (by omega)]
        obtain ⟨s1, s2⟩ := (k2.fr (C' := C1) (by rw [f1 _ (by omega) (by omega)]) (f1 _ (by omega) (by omega)) (f1 _ (by omega) (by omega))).sav
        have q123 : savC C1 25 8 123 = C 123 := by rw [savC_ne (by omega), f1 _ (by omega) (by omega)]
        have b3' : ImgM (savC C1 25 8) x B := by unfold ImgM at *; rw [q123]; exact b3
        have rm := RowM.gb b3'
        have f2 : ∀ a, a ≠ 0 → a < 82 ∨ 84 < a → a ≠ 104 → a ≠ 111 → a ≠ 112 → a ≠ 116 → a ≠ 117 → gbI (savC C1 25 8) x 8 24 a = C a := fun a h0 h1 h2 h3 h4 h5 h6 => by rw [gbI_ne (by omega), savC_ne (by omega), f1 _ h0 h1]
        have hSM : SmM (gbI (savC C1 25 8) x 8 24) nb := ⟨h.smm.1, by rw [f2 109 (by omega) (by omega) (by omega) (by omega) (by omega) (by omega) (by omega)]; exact h.smm.2.1, by rw [f2 110 (by omega) (by omega) (by omega) (by omega) (by omega) (by omega) (by omega)]; exact h.smm.2.2⟩
        have mg := fun K => m_gob112 (z := z) (g := g) (K := K) hx rm b2 hSM
        rw [f2 110 (by omega) (by omega) (by omega) (by omega) (by omega) (by omega) (by omega), f2 109 (by omega) (by omega) (by omega) (by omega) (by omega) (by omega) (by omega)] at mg
        simp only [if_neg o] at mg
        obtain ⟨D, hD⟩ : ∃ D, D = gbI (savC C1 25 8) x 8 24 := ⟨_, rfl⟩
        rw [← hD] at mg rm
        have d123 : D 123 = C 123 := by rw [hD]; exact f2 123 (by omega) (by omega) (by omega) (by omega) (by omega) (by omega) (by omega)
        have e : ∀ a, a ≠ 104 → up (up D 104 10 (D 123 (40 * x + 1))) 104 29 (D 123 (40 * x + 2)) a = D a := fun a q => by rw [up_ne q, up_ne q]
        have e4 : ∀ j, j ≠ 10 → j ≠ 29 → up (up D 104 10 (D 123 (40 * x + 1))) 104 29 (D 123 (40 * x + 2)) 104 j = D 104 j := fun j q1 q2 => by rw [up_nk q2, up_nk q1]
        have d0 : D 0 = C1 0 := by rw [hD, gbI_ne (by omega), savC_ne (by omega)]
        have c11 : C1 0 11 = C (96 + 4 * x) 1 := by rw [hC1, up_nk (by omega), up_eq]
        have c12 : C1 0 12 = C (96 + 4 * x) 2 := by rw [hC1, up_eq]
        have d104 : ∀ j, j ≠ 7 → j ≠ 20 → D 104 j = C 104 j := fun j q1 q2 => by rw [hD, gbI_104 q1, savC_104 q2, f1 _ (by omega) (by omega)]
        refine ⟨1, C1, up (up D 104 10 (D 123 (40 * x + 1))) 104 29 (D 123 (40 * x + 2)), B, fun K => ?_, fun K => ?_, ?_⟩
        · rw [cls, i1, i2, xbr_neg (by decide), hh, if_neg o, xbr_neg (by decide), ← hC1]
        · have z4 : C1 124 x = 1 := by rw [f1 _ (by omega) (by omega)]; exact i2
          unfold PX11_goBack
          simp (disch := omega) only [J_add, J_sub, J_mul, J_lt, J_le, J_eq, xbr_true, xbr_false, xbr_pos, xbr_neg, Int.toNat_natCast, all_eq, ex_eq, t_0, q_0_0, q_0_1, q_0_2, q_0_3, q_0_4, q_0_5, q_0_6, q_0_7, q_0_8, q_0_9, i_0_10, p_0_10, i_0_11, p_0_11, i_0_12, p_0_12, t_1, q_1_0, t_3, q_3_0, q_3_1, i_3_2, p_3_2, i_3_3, p_3_3, t_80, q_80_0, t_88, q_88_0, t_90, q_90_0, t_92, q_92_0, q_92_1, q_92_2, i_92_3, p_92_3, i_92_4, p_92_4, t_96, q_96_0, i_96_1, p_96_1, i_96_2, p_96_2, i_96_3, p_96_3, t_100, q_100_0, i_100_1, p_100_1, i_100_2, p_100_2, i_100_3, p_100_3, t_104, q_104_1, q_104_2, q_104_3, q_104_4, q_104_5, q_104_6, q_104_8, q_104_9, q_104_11, q_104_12, q_104_18, q_104_21, q_104_22, q_104_23, q_104_24, q_104_26, q_104_27, q_104_28, q_104_30, q_104_31, i_104_0, p_104_0, i_104_7, p_104_7, i_104_10, p_104_10, i_104_13, p_104_13, i_104_14, p_104_14, i_104_15, p_104_15, i_104_16, p_104_16, i_104_17, p_104_17, i_104_19, p_104_19, i_104_20, p_104_20, i_104_25, p_104_25, i_104_29, p_104_29, a_2, w_2, a_81, w_81, a_89, w_89, a_91, w_91, a_93, w_93, a_94, w_94, a_95, w_95, a_105, w_105, a_106, w_106, a_107, w_107, a_108, w_108, a_109, w_109, a_110, w_110, a_111, w_111, a_112, w_112, a_113, w_113, a_114, w_114, a_115, w_115, a_116, w_116, a_117, w_117, a_118, w_118, a_119, w_119, a_120, w_120, a_121, w_121, a_122, w_122, a_123, w_123, a_124, w_124, J_long, m_in, if_pos (show 0 ≤ (x : Int) ∧ (x : Int) ≤ 1 by omega), z4, m_save, t0]
          rw [m_gob48 hx, ← hD, mg]
        · refine h.gen (fun a h0 ha => ?_) (fun j hj => ?_) ?_ ?_ ?_ ⟨(RowC.cp (r := 82) b1 b2 h.smm.1).fr ?_ ?_ ?_, rm.fr (e4 _ (by omega) (by omega)) (e _ (by omega)) (e _ (by omega)), b2⟩ (h.2.2.2.2.2.2.2.1.fr ?_ ?_ ?_)
          · unfold freeO at ha
            rw [e _ (by omega), hD, f2 a h0 (by omega) (by omega) (by omega) (by omega) (by omega) (by omega)]
          · rw [e4 _ (by omega) (by omega), d104 _ (by omega) (by omega)]
          · have := h.2.2.1
            unfold GFault at *
            rw [e4 _ (by omega) (by omega), d104 _ (by omega) (by omega), e _ (by omega), d0, hC1, up_nk (by omega), up_nk (by omega), cpC_ne (by omega)]
            exact this
          · unfold GList
            rw [up_nk (by omega), up_eq, e _ (by omega), d0, c11, d123, b4]
            exact ⟨rfl, b5, b6⟩
          · unfold GSeed
            rw [up_eq, e _ (by omega), d0, c12, d123, b7]
            exact ⟨rfl, b8, b9⟩
          all_goals rw [e _ (by omega), hD, gbI_ne (by omega), savC_ne (by omega)]
          · rw [hC1, up_ne (by omega), up_ne (by omega)]
          · rw [hC1, up_ne (by omega), up_ne (by omega)]
          · rw [hC1, up_ne (by omega), up_ne (by omega)]
          · rw [f1 _ (by omega) (by omega)]
          · rw [f1 _ (by omega) (by omega)]
          · rw [f1 _ (by omega) (by omega)]
  · refine ⟨-1001, C, C, A, fun K => ?_, fun K => ?_, h⟩
    · unfold PX10_goBack
      simp (disch := omega) only [J_add, J_sub, J_mul, J_lt, J_le, J_eq, xbr_true, xbr_false, xbr_pos, xbr_neg, Int.toNat_natCast, all_eq, ex_eq, t_0, q_0_0, q_0_1, q_0_2, q_0_3, q_0_4, q_0_5, q_0_6, q_0_7, q_0_8, q_0_9, i_0_10, p_0_10, i_0_11, p_0_11, i_0_12, p_0_12, t_1, q_1_0, t_3, q_3_0, q_3_1, i_3_2, p_3_2, i_3_3, p_3_3, t_80, q_80_0, t_88, q_88_0, t_90, q_90_0, t_92, q_92_0, q_92_1, q_92_2, i_92_3, p_92_3, i_92_4, p_92_4, t_96, q_96_0, i_96_1, p_96_1, i_96_2, p_96_2, i_96_3, p_96_3, t_100, q_100_0, i_100_1, p_100_1, i_100_2, p_100_2, i_100_3, p_100_3, t_104, q_104_1, q_104_2, q_104_3, q_104_4, q_104_5, q_104_6, q_104_8, q_104_9, q_104_11, q_104_12, q_104_18, q_104_21, q_104_22, q_104_23, q_104_24, q_104_26, q_104_27, q_104_28, q_104_30, q_104_31, i_104_0, p_104_0, i_104_7, p_104_7, i_104_10, p_104_10, i_104_13, p_104_13, i_104_14, p_104_14, i_104_15, p_104_15, i_104_16, p_104_16, i_104_17, p_104_17, i_104_19, p_104_19, i_104_20, p_104_20, i_104_25, p_104_25, i_104_29, p_104_29, a_2, w_2, a_81, w_81, a_89, w_89, a_91, w_91, a_93, w_93, a_94, w_94, a_95, w_95, a_105, w_105, a_106, w_106, a_107, w_107, a_108, w_108, a_109, w_109, a_110, w_110, a_111, w_111, a_112, w_112, a_113, w_113, a_114, w_114, a_115, w_115, a_116, w_116, a_117, w_117, a_118, w_118, a_119, w_119, a_120, w_120, a_121, w_121, a_122, w_122, a_123, w_123, a_124, w_124, s_isImage, if_neg c]
    · unfold PX11_goBack
      simp (disch := omega) only [J_add, J_sub, J_mul, J_lt, J_le, J_eq, xbr_true, xbr_false, xbr_pos, xbr_neg, Int.toNat_natCast, all_eq, ex_eq, t_0, q_0_0, q_0_1, q_0_2, q_0_3, q_0_4, q_0_5, q_0_6, q_0_7, q_0_8, q_0_9, i_0_10, p_0_10, i_0_11, p_0_11, i_0_12, p_0_12, t_1, q_1_0, t_3, q_3_0, q_3_1, i_3_2, p_3_2, i_3_3, p_3_3, t_80, q_80_0, t_88, q_88_0, t_90, q_90_0, t_92, q_92_0, q_92_1, q_92_2, i_92_3, p_92_3, i_92_4, p_92_4, t_96, q_96_0, i_96_1, p_96_1, i_96_2, p_96_2, i_96_3, p_96_3, t_100, q_100_0, i_100_1, p_100_1, i_100_2, p_100_2, i_100_3, p_100_3, t_104, q_104_1, q_104_2, q_104_3, q_104_4, q_104_5, q_104_6, q_104_8, q_104_9, q_104_11, q_104_12, q_104_18, q_104_21, q_104_22, q_104_23, q_104_24, q_104_26, q_104_27, q_104_28, q_104_30, q_104_31, i_104_0, p_104_0, i_104_7, p_104_7, i_104_10, p_104_10, i_104_13, p_104_13, i_104_14, p_104_14, i_104_15, p_104_15, i_104_16, p_104_16, i_104_17, p_104_17, i_104_19, p_104_19, i_104_20, p_104_20, i_104_25, p_104_25, i_104_29, p_104_29, a_2, w_2, a_81, w_81, a_89, w_89, a_91, w_91, a_93, w_93, a_94, w_94, a_95, w_95, a_105, w_105, a_106, w_106, a_107, w_107, a_108, w_108, a_109, w_109, a_110, w_110, a_111, w_111, a_112, w_112, a_113, w_113, a_114, w_114, a_115, w_115, a_116, w_116, a_117, w_117, a_118, w_118, a_119, w_119, a_120, w_120, a_121, w_121, a_122, w_122, a_123, w_123, a_124, w_124, J_long, m_in]
end GOB
