/-! THE SEARCH: search -/
section SR2
variable {z : Nat} {g : Mem} {C C' D : Nat → Nat → Int} {nb n : Nat} {A : Rw} {l : List Nat} {τ : Nat → Nat} {ch : Nat → Int} {on : Nat → Nat}
theorem tl_T (h5 : (tlL ch 8).length ≤ 5) : TaI (tlL ch 8).length (fun i => (tlL ch 8).getD i 0) := by
  obtain ⟨t1, t2, t3⟩ := tlL_ok (ch := ch) 8
  exact ⟨h5, t1, fun i hi => (t2 i hi).1⟩
theorem range_at {n i : Nat} (hi : i < n) : (List.range n).getD i 0 = i := by
  simp [List.getD_eq_getElem?_getD, hi]
/-- the best of the orders up to the t-th: which, and its cost -/
def bsT (f : Nat → Int) : Nat → Nat × Int
  | 0 => (0, f 0)
  | t + 1 => if f (t + 1) < (bsT f t).2 then (t + 1, f (t + 1)) else bsT f t
theorem bsT_le (f : Nat → Int) (t : Nat) : (bsT f t).1 ≤ t := by
  induction t with
  | zero => exact Nat.le_refl _
  | succ t ih =>
    show (if f (t + 1) < (bsT f t).2 then (t + 1, f (t + 1)) else bsT f t).1 ≤ _
    split
    · exact Nat.le_refl _
    · omega
theorem bsT_b {f : Nat → Int} {a b : Int} (h : ∀ t, a ≤ f t ∧ f t ≤ b) (t : Nat) : a ≤ (bsT f t).2 ∧ (bsT f t).2 ≤ b := by
  induction t with
  | zero => exact h 0
  | succ t ih =>
    show a ≤ (if f (t + 1) < (bsT f t).2 then (t + 1, f (t + 1)) else bsT f t).2 ∧ (if f (t + 1) < (bsT f t).2 then (t + 1, f (t + 1)) else bsT f t).2 ≤ b
    split
    · exact h (t + 1)
    · exact ih
theorem s_begin (h : Inv C nb A) {b : Nat} (hb : b < nb) : ∀ m, m ≤ 8 → ∃ D : Nat → Nat → Int, (∀ a, a ≠ 92 → a ≠ 93 → a ≠ 94 → D a = C a) ∧ D 92 3 = (tlL (chA (C 113) C A b) m).length ∧ (∀ s, s < m → D 93 s = chA (C 113) C A b s) ∧ (∀ i, i < (tlL (chA (C 113) C A b) m).length → D 94 i = (tlL (chA (C 113) C A b) m).getD i 0) ∧ ∀ K, lp (BX7_begin_8 K (ad z 92) (ad z 82) (ad z 3) (ad z 90) (J (b : Nat))) (lay z g (up C 92 3 0), J 0) = lp (BX7_begin_8 K (ad z 92) (ad z 82) (ad z 3) (ad z 90) (J (b : Nat))) (lay z g D, J (m : Nat)) := by
  obtain ⟨g1, g2, g3, g4, g5, g6, g7⟩ := h.2.1
  obtain ⟨k1, k2, k3⟩ := h.2.2.2.2.2.2.1
  obtain ⟨hc, hm, he⟩ := h.hh
  intro m
  induction m with
  | zero => exact fun _ => ⟨up C 92 3 0, fun a h1 _ _ => up_ne h1, up_eq, fun s hs => absurd hs (Nat.not_lt_zero _), fun i hi => absurd hi (Nat.not_lt_zero _), fun _ => rfl⟩
  | succ m ih =>
    intro hm8
    obtain ⟨D, d1, d2, d3, d4, hD⟩ := ih (by omega)
    have D91 : D 91 = C 91 := d1 91 (by omega) (by omega) (by omega)
    have sc := fun K => s_chance (z := z) (g := g) (C := D) (K := K) (nb := nb) (A := A) (g5.fr (fun o _ _ => d1 o (by omega) (by omega) (by omega))) g1 (k1.fr (d1 _ (by omega) (by omega) (by omega)) (d1 _ (by omega) (by omega) (by omega)) (d1 _ (by omega) (by omega) (by omega))) k3 (by rw [D91]; exact hc) hb (show m < 8 by omega)
    have ec : chA (D 91) D A b m = chA (C 113) C A b m := chA_congr (fun o _ _ => d1 o (by omega) (by omega) (by omega)) (fun k hk => by rw [D91, he k hk])
    rw [ec] at sc
    have cb := chA_b (C := C) (A := A) (H := C 113) hm b m
    have l5 := tlL_mono (ch := chA (C 113) C A b) (show m + 1 ≤ 8 by omega)
    have l8 := (tlL_ok (ch := chA (C 113) C A b) 8).2.2
    have l9 := led_five (H := C 113) (C := C) (A := A) (b := b) 8
    have em : (m : Int) + 1 = ((m + 1 : Nat) : Int) := by omega
    by_cases c : 0 < chA (C 113) C A b m
    · have e : tlL (chA (C 113) C A b) (m + 1) = tlL (chA (C 113) C A b) m ++ [m] := if_pos c
      rw [e] at l5
      simp only [List.length_append, List.length_cons, List.length_nil] at l5
      rw [e]
      have ln : (tlL (chA (C 113) C A b) m).length < 8 := by omega
      refine ⟨up (up (up D 93 m (chA (C 113) C A b m)) 94 (tlL (chA (C 113) C A b) m).length (m : Nat)) 92 3 (((tlL (chA (C 113) C A b) m).length : Int) + 1), fun a h1 h2 h3 => by rw [up_ne h1, up_ne h3, up_ne h2, d1 a h1 h2 h3], by rw [up_eq]; simp, fun s hs => ?_, fun i hi => ?_, fun K => (hD K).trans (lp_step fun kc => ?_)⟩
      · rw [up_ne (by omega), up_ne (by omega)]
        by_cases q : s = m
        · rw [q, up_eq]
        · rw [up_nk q]; exact d3 s (by omega)
      · rw [up_ne (by omega), getD_appN]
        simp only [List.length_append, List.length_cons, List.length_nil] at hi
        by_cases q : i = (tlL (chA (C 113) C A b) m).length
        · rw [q, up_eq, if_neg (by omega), if_pos rfl]
        · rw [up_nk q, up_ne (by omega), if_pos (by omega)]; exact d4 i (by omega)
      · have u1 : up D 93 m (chA (C 113) C A b m) 92 3 = (tlL (chA (C 113) C A b) m).length := by rw [up_ne (by omega)]; exact d2
        have u2 : up (up D 93 m (chA (C 113) C A b m)) 94 (tlL (chA (C 113) C A b) m).length (m : Nat) 92 3 = (tlL (chA (C 113) C A b) m).length := by rw [up_ne (by omega)]; exact u1
        unfold BX7_begin_8 CX7_begin_8
        simp (disch := omega) only [J_add, J_sub, J_mul, J_lt, J_le, J_eq, xbr_true, xbr_false, xbr_pos, xbr_neg, Int.toNat_natCast, all_eq, ex_eq, t_0, q_0_0, q_0_1, q_0_2, q_0_3, q_0_4, q_0_5, q_0_6, q_0_7, q_0_8, q_0_9, i_0_10, p_0_10, i_0_11, p_0_11, i_0_12, p_0_12, t_1, q_1_0, t_3, q_3_0, q_3_1, i_3_2, p_3_2, i_3_3, p_3_3, t_80, q_80_0, t_88, q_88_0, t_90, q_90_0, t_92, q_92_0, q_92_1, q_92_2, i_92_3, p_92_3, i_92_4, p_92_4, t_96, q_96_0, i_96_1, p_96_1, i_96_2, p_96_2, i_96_3, p_96_3, t_100, q_100_0, i_100_1, p_100_1, i_100_2, p_100_2, i_100_3, p_100_3, t_104, q_104_1, q_104_2, q_104_3, q_104_4, q_104_5, q_104_6, q_104_8, q_104_9, q_104_11, q_104_12, q_104_18, q_104_21, q_104_22, q_104_23, q_104_24, q_104_26, q_104_27, q_104_28, q_104_30, q_104_31, i_104_0, p_104_0, i_104_7, p_104_7, i_104_10, p_104_10, i_104_13, p_104_13, i_104_14, p_104_14, i_104_15, p_104_15, i_104_16, p_104_16, i_104_17, p_104_17, i_104_19, p_104_19, i_104_20, p_104_20, i_104_25, p_104_25, i_104_29, p_104_29, a_2, w_2, a_81, w_81, a_89, w_89, a_91, w_91, a_93, w_93, a_94, w_94, a_95, w_95, a_105, w_105, a_106, w_106, a_107, w_107, a_108, w_108, a_109, w_109, a_110, w_110, a_111, w_111, a_112, w_112, a_113, w_113, a_114, w_114, a_115, w_115, a_116, w_116, a_117, w_117, a_118, w_118, a_119, w_119, a_120, w_120, a_121, w_121, a_122, w_122, a_123, w_123, a_124, w_124, sc, s_wrt8 (o := 93) rfl (show m < 8 by omega), u1, s_wrt8 (o := 94) rfl ln, u2, em]
    · have e : tlL (chA (C 113) C A b) (m + 1) = tlL (chA (C 113) C A b) m := if_neg c
      rw [e]
      refine ⟨up D 93 m (chA (C 113) C A b m), fun a h1 h2 h3 => by rw [up_ne h2, d1 a h1 h2 h3], by rw [up_ne (by omega)]; exact d2, fun s hs => ?_, fun i hi => by rw [up_ne (by omega)]; exact d4 i hi, fun K => (hD K).trans (lp_step fun kc => ?_)⟩
      · by_cases q : s = m
        · rw [q, up_eq]
        · rw [up_nk q]; exact d3 s (by omega)
      · unfold BX7_begin_8 CX7_begin_8
        simp (disch := omega) only [J_add, J_sub, J_mul, J_lt, J_le, J_eq, xbr_true, xbr_false, xbr_pos, xbr_neg, Int.toNat_natCast, all_eq, ex_eq, t_0, q_0_0, q_0_1, q_0_2, q_0_3, q_0_4, q_0_5, q_0_6, q_0_7, q_0_8, q_0_9, i_0_10, p_0_10, i_0_11, p_0_11, i_0_12, p_0_12, t_1, q_1_0, t_3, q_3_0, q_3_1, i_3_2, p_3_2, i_3_3, p_3_3, t_80, q_80_0, t_88, q_88_0, t_90, q_90_0, t_92, q_92_0, q_92_1, q_92_2, i_92_3, p_92_3, i_92_4, p_92_4, t_96, q_96_0, i_96_1, p_96_1, i_96_2, p_96_2, i_96_3, p_96_3, t_100, q_100_0, i_100_1, p_100_1, i_100_2, p_100_2, i_100_3, p_100_3, t_104, q_104_1, q_104_2, q_104_3, q_104_4, q_104_5, q_104_6, q_104_8, q_104_9, q_104_11, q_104_12, q_104_18, q_104_21, q_104_22, q_104_23, q_104_24, q_104_26, q_104_27, q_104_28, q_104_30, q_104_31, i_104_0, p_104_0, i_104_7, p_104_7, i_104_10, p_104_10, i_104_13, p_104_13, i_104_14, p_104_14, i_104_15, p_104_15, i_104_16, p_104_16, i_104_17, p_104_17, i_104_19, p_104_19, i_104_20, p_104_20, i_104_25, p_104_25, i_104_29, p_104_29, a_2, w_2, a_81, w_81, a_89, w_89, a_91, w_91, a_93, w_93, a_94, w_94, a_95, w_95, a_105, w_105, a_106, w_106, a_107, w_107, a_108, w_108, a_109, w_109, a_110, w_110, a_111, w_111, a_112, w_112, a_113, w_113, a_114, w_114, a_115, w_115, a_116, w_116, a_117, w_117, a_118, w_118, a_119, w_119, a_120, w_120, a_121, w_121, a_122, w_122, a_123, w_123, a_124, w_124, sc, s_wrt8 (o := 93) rfl (show m < 8 by omega), em]
theorem m_find7 (h : Inv C nb A) {F : Nat → Nat → Int} (hF : ∀ a, a < 92 ∨ 95 < a → F a = C a) {b : Nat} (hb : b < nb) : ∀ m, m ≤ 8 → ∃ D : Nat → Nat → Int, (∀ a, a ≠ 104 → a ≠ 120 → a ≠ 122 → D a = F a) ∧ (∀ j, j ≠ 25 → D 104 j = F 104 j) ∧ D 104 25 = (tlL (chA (C 113) C A b) m).length ∧ (∀ s, s < m → D 122 s = chA (C 113) C A b s) ∧ (∀ i, i < (tlL (chA (C 113) C A b) m).length → D 120 i = (tlL (chA (C 113) C A b) m).getD i 0) ∧ ∀ K, lp (BX11_findSearch_7 K (ad z 104) (J (b : Nat))) (lay z g (up F 104 25 0), J 0) = lp (BX11_findSearch_7 K (ad z 104) (J (b : Nat))) (lay z g D, J (m : Nat)) := by
  obtain ⟨g1, g2, g3, g4, g5, g6, g7⟩ := h.2.1
  obtain ⟨k1, k2, k3⟩ := h.2.2.2.2.2.2.1
  obtain ⟨hc, hm, he⟩ := h.hh
  intro m
  induction m with
  | zero => exact fun _ => ⟨up F 104 25 0, fun a h1 _ _ => up_ne h1, fun j hj => up_nk hj, up_eq, fun s hs => absurd hs (Nat.not_lt_zero _), fun i hi => absurd hi (Nat.not_lt_zero _), fun _ => rfl⟩
  | succ m ih =>
    intro hm8
    obtain ⟨D, d1, d0, d2, d3, d4, hD⟩ := ih (by omega)
    have dC : ∀ a, a < 92 ∨ 95 < a → a ≠ 104 → a ≠ 120 → a ≠ 122 → D a = C a := fun a h1 h2 h3 h4 => by rw [d1 a h2 h3 h4, hF a h1]
    have D113 : D 113 = C 113 := dC 113 (by omega) (by omega) (by omega) (by omega)
    have k2D : RowM D A := k2.fr (by rw [d0 _ (by omega), hF _ (by omega)]) (dC _ (by omega) (by omega) (by omega) (by omega)) (dC _ (by omega) (by omega) (by omega) (by omega))
    have sc := fun K => m_likelyOn (z := z) (g := g) (C := D) (K := K) k2D k3 g1 (fun x hx => (g6 x hx).fr (by omega) (fun a _ _ => dC a (by omega) (by omega) (by omega) (by omega)) (fun a _ _ => dC a (by omega) (by omega) (by omega) (by omega))) (by rw [D113]; exact hm) hb (show m < 8 by omega)
    have ec : chA (D 113) D A b m = chA (C 113) C A b m := chA_congr (fun o _ _ => dC o (by omega) (by omega) (by omega) (by omega)) (fun k hk => by rw [D113])
    rw [ec] at sc
    have cb := chA_b (C := C) (A := A) (H := C 113) hm b m
    have l5 := tlL_mono (ch := chA (C 113) C A b) (show m + 1 ≤ 8 by omega)
    have l8 := (tlL_ok (ch := chA (C 113) C A b) 8).2.2
    have l9 := led_five (H := C 113) (C := C) (A := A) (b := b) 8
    have em : (m : Int) + 1 = ((m + 1 : Nat) : Int) := by omega
    by_cases c : 0 < chA (C 113) C A b m
    · have e : tlL (chA (C 113) C A b) (m + 1) = tlL (chA (C 113) C A b) m ++ [m] := if_pos c
      rw [e] at l5
      simp only [List.length_append, List.length_cons, List.length_nil] at l5
      rw [e]
      have ln : (tlL (chA (C 113) C A b) m).length < 5 := by omega
      refine ⟨up (up (up D 122 m (chA (C 113) C A b m)) 120 (tlL (chA (C 113) C A b) m).length (m : Nat)) 104 25 (((tlL (chA (C 113) C A b) m).length : Int) + 1), fun a h1 h2 h3 => by rw [up_ne h1, up_ne h2, up_ne h3, d1 a h1 h2 h3], fun j hj => by rw [up_nk hj, up_ne (by omega), up_ne (by omega), d0 j hj], by rw [up_eq]; simp, fun s hs => ?_, fun i hi => ?_, fun K => (hD K).trans (lp_step fun kc => ?_)⟩
      · rw [up_ne (by omega), up_ne (by omega)]
        by_cases q : s = m
        · rw [q, up_eq]
        · rw [up_nk q]; exact d3 s (by omega)
      · rw [up_ne (by omega), getD_appN]
        simp only [List.length_append, List.length_cons, List.length_nil] at hi
        by_cases q : i = (tlL (chA (C 113) C A b) m).length
        · rw [q, up_eq, if_neg (by omega), if_pos rfl]
        · rw [up_nk q, up_ne (by omega), if_pos (by omega)]; exact d4 i (by omega)
      · have u1 : up D 122 m (chA (C 113) C A b m) 104 25 = (tlL (chA (C 113) C A b) m).length := by rw [up_ne (by omega)]; exact d2
        have u2 : up (up D 122 m (chA (C 113) C A b m)) 120 (tlL (chA (C 113) C A b) m).length (m : Nat) 104 25 = (tlL (chA (C 113) C A b) m).length := by rw [up_ne (by omega)]; exact u1
        have u3 : up D 122 m (chA (C 113) C A b m) 122 m = chA (C 113) C A b m := up_eq
        unfold BX11_findSearch_7 CX11_findSearch_7
        simp (disch := omega) only [J_add, J_sub, J_mul, J_lt, J_le, J_eq, xbr_true, xbr_false, xbr_pos, xbr_neg, Int.toNat_natCast, all_eq, ex_eq, t_0, q_0_0, q_0_1, q_0_2, q_0_3, q_0_4, q_0_5, q_0_6, q_0_7, q_0_8, q_0_9, i_0_10, p_0_10, i_0_11, p_0_11, i_0_12, p_0_12, t_1, q_1_0, t_3, q_3_0, q_3_1, i_3_2, p_3_2, i_3_3, p_3_3, t_80, q_80_0, t_88, q_88_0, t_90, q_90_0, t_92, q_92_0, q_92_1, q_92_2, i_92_3, p_92_3, i_92_4, p_92_4, t_96, q_96_0, i_96_1, p_96_1, i_96_2, p_96_2, i_96_3, p_96_3, t_100, q_100_0, i_100_1, p_100_1, i_100_2, p_100_2, i_100_3, p_100_3, t_104, q_104_1, q_104_2, q_104_3, q_104_4, q_104_5, q_104_6, q_104_8, q_104_9, q_104_11, q_104_12, q_104_18, q_104_21, q_104_22, q_104_23, q_104_24, q_104_26, q_104_27, q_104_28, q_104_30, q_104_31, i_104_0, p_104_0, i_104_7, p_104_7, i_104_10, p_104_10, i_104_13, p_104_13, i_104_14, p_104_14, i_104_15, p_104_15, i_104_16, p_104_16, i_104_17, p_104_17, i_104_19, p_104_19, i_104_20, p_104_20, i_104_25, p_104_25, i_104_29, p_104_29, a_2, w_2, a_81, w_81, a_89, w_89, a_91, w_91, a_93, w_93, a_94, w_94, a_95, w_95, a_105, w_105, a_106, w_106, a_107, w_107, a_108, w_108, a_109, w_109, a_110, w_110, a_111, w_111, a_112, w_112, a_113, w_113, a_114, w_114, a_115, w_115, a_116, w_116, a_117, w_117, a_118, w_118, a_119, w_119, a_120, w_120, a_121, w_121, a_122, w_122, a_123, w_123, a_124, w_124, sc, u3, u1, u2, em]
    · have e : tlL (chA (C 113) C A b) (m + 1) = tlL (chA (C 113) C A b) m := if_neg c
      rw [e]
      refine ⟨up D 122 m (chA (C 113) C A b m), fun a h1 h2 h3 => by rw [up_ne h3, d1 a h1 h2 h3], fun j hj => by rw [up_ne (by omega), d0 j hj], by rw [up_ne (by omega)]; exact d2, fun s hs => ?_, fun i hi => by rw [up_ne (by omega)]; exact d4 i hi, fun K => (hD K).trans (lp_step fun kc => ?_)⟩
      · by_cases q : s = m
        · rw [q, up_eq]
        · rw [up_nk q]; exact d3 s (by omega)
      · have u3 : up D 122 m (chA (C 113) C A b m) 122 m = chA (C 113) C A b m := up_eq
        unfold BX11_findSearch_7 CX11_findSearch_7
        simp (disch := omega) only [J_add, J_sub, J_mul, J_lt, J_le, J_eq, xbr_true, xbr_false, xbr_pos, xbr_neg, Int.toNat_natCast, all_eq, ex_eq, t_0, q_0_0, q_0_1, q_0_2, q_0_3, q_0_4, q_0_5, q_0_6, q_0_7, q_0_8, q_0_9, i_0_10, p_0_10, i_0_11, p_0_11, i_0_12, p_0_12, t_1, q_1_0, t_3, q_3_0, q_3_1, i_3_2, p_3_2, i_3_3, p_3_3, t_80, q_80_0, t_88, q_88_0, t_90, q_90_0, t_92, q_92_0, q_92_1, q_92_2, i_92_3, p_92_3, i_92_4, p_92_4, t_96, q_96_0, i_96_1, p_96_1, i_96_2, p_96_2, i_96_3, p_96_3, t_100, q_100_0, i_100_1, p_100_1, i_100_2, p_100_2, i_100_3, p_100_3, t_104, q_104_1, q_104_2, q_104_3, q_104_4, q_104_5, q_104_6, q_104_8, q_104_9, q_104_11, q_104_12, q_104_18, q_104_21, q_104_22, q_104_23, q_104_24, q_104_26, q_104_27, q_104_28, q_104_30, q_104_31, i_104_0, p_104_0, i_104_7, p_104_7, i_104_10, p_104_10, i_104_13, p_104_13, i_104_14, p_104_14, i_104_15, p_104_15, i_104_16, p_104_16, i_104_17, p_104_17, i_104_19, p_104_19, i_104_20, p_104_20, i_104_25, p_104_25, i_104_29, p_104_29, a_2, w_2, a_81, w_81, a_89, w_89, a_91, w_91, a_93, w_93, a_94, w_94, a_95, w_95, a_105, w_105, a_106, w_106, a_107, w_107, a_108, w_108, a_109, w_109, a_110, w_110, a_111, w_111, a_112, w_112, a_113, w_113, a_114, w_114, a_115, w_115, a_116, w_116, a_117, w_117, a_118, w_118, a_119, w_119, a_120, w_120, a_121, w_121, a_122, w_122, a_123, w_123, a_124, w_124, sc, u3, em]
def kbC (D : Nat → Nat → Int) (o o' m : Nat) : Nat → Nat → Int := fun a j => if a = o ∧ j < m then D o' j else D a j
theorem kbC_ne {o o' m a : Nat} (h : a ≠ o) : kbC D o o' m a = D a := by
  funext j; unfold kbC; rw [if_neg (fun q => h q.1)]
theorem kbC_step {o o' m : Nat} (h : o' ≠ o) : up (kbC D o o' m) o m (kbC D o o' m o' m) = kbC D o o' (m + 1) := by
  rw [kbC_ne h]
  funext a j
  unfold up kbC
  by_cases q : a = o ∧ j = m
  · rw [if_pos q, if_pos (by omega), q.2]
  · rw [if_neg q]
    by_cases q2 : a = o ∧ j < m
    · rw [if_pos q2, if_pos (by omega)]
    · rw [if_neg q2, if_neg (by omega)]
theorem kbC_zero {o o' : Nat} : kbC D o o' 0 = D := by
  funext a j; unfold kbC; rw [if_neg (by omega)]
theorem s_keepBest {K : Mem → Prop} (hn : D 92 3 = n) (n5 : n ≤ 5) {v : Int} : PX7_keepBest (ad z 92) (J v) (lay z g D) K = K (lay z g (kbC (up D 92 4 v) 95 94 n)) := by
  unfold PX7_keepBest
  simp (disch := omega) only [J_add, J_sub, J_mul, J_lt, J_le, J_eq, xbr_true, xbr_false, xbr_pos, xbr_neg, Int.toNat_natCast, all_eq, ex_eq, t_0, q_0_0, q_0_1, q_0_2, q_0_3, q_0_4, q_0_5, q_0_6, q_0_7, q_0_8, q_0_9, i_0_10, p_0_10, i_0_11, p_0_11, i_0_12, p_0_12, t_1, q_1_0, t_3, q_3_0, q_3_1, i_3_2, p_3_2, i_3_3, p_3_3, t_80, q_80_0, t_88, q_88_0, t_90, q_90_0, t_92, q_92_0, q_92_1, q_92_2, i_92_3, p_92_3, i_92_4, p_92_4, t_96, q_96_0, i_96_1, p_96_1, i_96_2, p_96_2, i_96_3, p_96_3, t_100, q_100_0, i_100_1, p_100_1, i_100_2, p_100_2, i_100_3, p_100_3, t_104, q_104_1, q_104_2, q_104_3, q_104_4, q_104_5, q_104_6, q_104_8, q_104_9, q_104_11, q_104_12, q_104_18, q_104_21, q_104_22, q_104_23, q_104_24, q_104_26, q_104_27, q_104_28, q_104_30, q_104_31, i_104_0, p_104_0, i_104_7, p_104_7, i_104_10, p_104_10, i_104_13, p_104_13, i_104_14, p_104_14, i_104_15, p_104_15, i_104_16, p_104_16, i_104_17, p_104_17, i_104_19, p_104_19, i_104_20, p_104_20, i_104_25, p_104_25, i_104_29, p_104_29, a_2, w_2, a_81, w_81, a_89, w_89, a_91, w_91, a_93, w_93, a_94, w_94, a_95, w_95, a_105, w_105, a_106, w_106, a_107, w_107, a_108, w_108, a_109, w_109, a_110, w_110, a_111, w_111, a_112, w_112, a_113, w_113, a_114, w_114, a_115, w_115, a_116, w_116, a_117, w_117, a_118, w_118, a_119, w_119, a_120, w_120, a_121, w_121, a_122, w_122, a_123, w_123, a_124, w_124]
  have st : (lay z g (up D 92 4 v), J 0) = (fun i : Nat => (lay z g (kbC (up D 92 4 v) 95 94 i), J (i : Int))) 0 := by
    show _ = (lay z g (kbC (up D 92 4 v) 95 94 0), _)
    rw [kbC_zero]; rfl
  rw [st]
  have u3 : ∀ i, kbC (up D 92 4 v) 95 94 i 92 3 = n := fun i => by rw [kbC_ne (by omega), up_nk (by omega)]; exact hn
  refine lp_for (fun i : Nat => (lay z g (kbC (up D 92 4 v) 95 94 i), J (i : Int))) 0 n _ (by omega) ?_ ?_
  · intro i _ hi kc
    have ei : (i : Int) + 1 = ((i + 1 : Nat) : Int) := by omega
    unfold BX7_keepBest_7 CX7_keepBest_7
    simp (disch := omega) only [J_add, J_sub, J_mul, J_lt, J_le, J_eq, xbr_true, xbr_false, xbr_pos, xbr_neg, Int.toNat_natCast, all_eq, ex_eq, t_0, q_0_0, q_0_1, q_0_2, q_0_3, q_0_4, q_0_5, q_0_6, q_0_7, q_0_8, q_0_9, i_0_10, p_0_10, i_0_11, p_0_11, i_0_12, p_0_12, t_1, q_1_0, t_3, q_3_0, q_3_1, i_3_2, p_3_2, i_3_3, p_3_3, t_80, q_80_0, t_88, q_88_0, t_90, q_90_0, t_92, q_92_0, q_92_1, q_92_2, i_92_3, p_92_3, i_92_4, p_92_4, t_96, q_96_0, i_96_1, p_96_1, i_96_2, p_96_2, i_96_3, p_96_3, t_100, q_100_0, i_100_1, p_100_1, i_100_2, p_100_2, i_100_3, p_100_3, t_104, q_104_1, q_104_2, q_104_3, q_104_4, q_104_5, q_104_6, q_104_8, q_104_9, q_104_11, q_104_12, q_104_18, q_104_21, q_104_22, q_104_23, q_104_24, q_104_26, q_104_27, q_104_28, q_104_30, q_104_31, i_104_0, p_104_0, i_104_7, p_104_7, i_104_10, p_104_10, i_104_13, p_104_13, i_104_14, p_104_14, i_104_15, p_104_15, i_104_16, p_104_16, i_104_17, p_104_17, i_104_19, p_104_19, i_104_20, p_104_20, i_104_25, p_104_25, i_104_29, p_104_29, a_2, w_2, a_81, w_81, a_89, w_89, a_91, w_91, a_93, w_93, a_94, w_94, a_95, w_95, a_105, w_105, a_106, w_106, a_107, w_107, a_108, w_108, a_109, w_109, a_110, w_110, a_111, w_111, a_112, w_112, a_113, w_113, a_114, w_114, a_115, w_115, a_116, w_116, a_117, w_117, a_118, w_118, a_119, w_119, a_120, w_120, a_121, w_121, a_122, w_122, a_123, w_123, a_124, w_124, u3, s_ent8 (o := 94) rfl (show i < 8 by omega), s_wrt8 (o := 95) rfl (show i < 8 by omega), kbC_step (D := up D 92 4 v) (o := 95) (o' := 94) (m := i) (by omega), ei]
  · intro kc
    unfold BX7_keepBest_7 CX7_keepBest_7
    simp (disch := omega) only [J_add, J_sub, J_mul, J_lt, J_le, J_eq, xbr_true, xbr_false, xbr_pos, xbr_neg, Int.toNat_natCast, all_eq, ex_eq, t_0, q_0_0, q_0_1, q_0_2, q_0_3, q_0_4, q_0_5, q_0_6, q_0_7, q_0_8, q_0_9, i_0_10, p_0_10, i_0_11, p_0_11, i_0_12, p_0_12, t_1, q_1_0, t_3, q_3_0, q_3_1, i_3_2, p_3_2, i_3_3, p_3_3, t_80, q_80_0, t_88, q_88_0, t_90, q_90_0, t_92, q_92_0, q_92_1, q_92_2, i_92_3, p_92_3, i_92_4, p_92_4, t_96, q_96_0, i_96_1, p_96_1, i_96_2, p_96_2, i_96_3, p_96_3, t_100, q_100_0, i_100_1, p_100_1, i_100_2, p_100_2, i_100_3, p_100_3, t_104, q_104_1, q_104_2, q_104_3, q_104_4, q_104_5, q_104_6, q_104_8, q_104_9, q_104_11, q_104_12, q_104_18, q_104_21, q_104_22, q_104_23, q_104_24, q_104_26, q_104_27, q_104_28, q_104_30, q_104_31, i_104_0, p_104_0, i_104_7, p_104_7, i_104_10, p_104_10, i_104_13, p_104_13, i_104_14, p_104_14, i_104_15, p_104_15, i_104_16, p_104_16, i_104_17, p_104_17, i_104_19, p_104_19, i_104_20, p_104_20, i_104_25, p_104_25, i_104_29, p_104_29, a_2, w_2, a_81, w_81, a_89, w_89, a_91, w_91, a_93, w_93, a_94, w_94, a_95, w_95, a_105, w_105, a_106, w_106, a_107, w_107, a_108, w_108, a_109, w_109, a_110, w_110, a_111, w_111, a_112, w_112, a_113, w_113, a_114, w_114, a_115, w_115, a_116, w_116, a_117, w_117, a_118, w_118, a_119, w_119, a_120, w_120, a_121, w_121, a_122, w_122, a_123, w_123, a_124, w_124, u3]
theorem m_copy95 {K : Int32 → Mem → Prop} {kc : Mem × Int32 × Int32 → Prop} (hn : D 104 25 = n) (n5 : n ≤ 5) {v : Int32} : JX11_findSearch_89 K kc (lay z g D) (ad z 104) v = JX11_findSearch_124 K kc (lay z g (kbC D 121 120 n)) (ad z 104) v := by
  unfold JX11_findSearch_89
  have st : (lay z g D, J 0) = (fun i : Nat => (lay z g (kbC D 121 120 i), J (i : Int))) 0 := by
    show _ = (lay z g (kbC D 121 120 0), _)
    rw [kbC_zero]; rfl
  rw [st]
  have u3 : ∀ i, kbC D 121 120 i 104 25 = n := fun i => by rw [kbC_ne (by omega)]; exact hn
  refine lp_for (fun i : Nat => (lay z g (kbC D 121 120 i), J (i : Int))) 0 n _ (by omega) ?_ ?_
  · intro i _ hi kc
    have ei : (i : Int) + 1 = ((i + 1 : Nat) : Int) := by omega
    unfold BX11_findSearch_95 CX11_findSearch_95
    simp (disch := omega) only [J_add, J_sub, J_mul, J_lt, J_le, J_eq, xbr_true, xbr_false, xbr_pos, xbr_neg, Int.toNat_natCast, all_eq, ex_eq, t_0, q_0_0, q_0_1, q_0_2, q_0_3, q_0_4, q_0_5, q_0_6, q_0_7, q_0_8, q_0_9, i_0_10, p_0_10, i_0_11, p_0_11, i_0_12, p_0_12, t_1, q_1_0, t_3, q_3_0, q_3_1, i_3_2, p_3_2, i_3_3, p_3_3, t_80, q_80_0, t_88, q_88_0, t_90, q_90_0, t_92, q_92_0, q_92_1, q_92_2, i_92_3, p_92_3, i_92_4, p_92_4, t_96, q_96_0, i_96_1, p_96_1, i_96_2, p_96_2, i_96_3, p_96_3, t_100, q_100_0, i_100_1, p_100_1, i_100_2, p_100_2, i_100_3, p_100_3, t_104, q_104_1, q_104_2, q_104_3, q_104_4, q_104_5, q_104_6, q_104_8, q_104_9, q_104_11, q_104_12, q_104_18, q_104_21, q_104_22, q_104_23, q_104_24, q_104_26, q_104_27, q_104_28, q_104_30, q_104_31, i_104_0, p_104_0, i_104_7, p_104_7, i_104_10, p_104_10, i_104_13, p_104_13, i_104_14, p_104_14, i_104_15, p_104_15, i_104_16, p_104_16, i_104_17, p_104_17, i_104_19, p_104_19, i_104_20, p_104_20, i_104_25, p_104_25, i_104_29, p_104_29, a_2, w_2, a_81, w_81, a_89, w_89, a_91, w_91, a_93, w_93, a_94, w_94, a_95, w_95, a_105, w_105, a_106, w_106, a_107, w_107, a_108, w_108, a_109, w_109, a_110, w_110, a_111, w_111, a_112, w_112, a_113, w_113, a_114, w_114, a_115, w_115, a_116, w_116, a_117, w_117, a_118, w_118, a_119, w_119, a_120, w_120, a_121, w_121, a_122, w_122, a_123, w_123, a_124, w_124, u3, kbC_step (D := D) (o := 121) (o' := 120) (m := i) (by omega), ei]
  · intro kc
    unfold BX11_findSearch_95 CX11_findSearch_95
    simp (disch := omega) only [J_add, J_sub, J_mul, J_lt, J_le, J_eq, xbr_true, xbr_false, xbr_pos, xbr_neg, Int.toNat_natCast, all_eq, ex_eq, t_0, q_0_0, q_0_1, q_0_2, q_0_3, q_0_4, q_0_5, q_0_6, q_0_7, q_0_8, q_0_9, i_0_10, p_0_10, i_0_11, p_0_11, i_0_12, p_0_12, t_1, q_1_0, t_3, q_3_0, q_3_1, i_3_2, p_3_2, i_3_3, p_3_3, t_80, q_80_0, t_88, q_88_0, t_90, q_90_0, t_92, q_92_0, q_92_1, q_92_2, i_92_3, p_92_3, i_92_4, p_92_4, t_96, q_96_0, i_96_1, p_96_1, i_96_2, p_96_2, i_96_3, p_96_3, t_100, q_100_0, i_100_1, p_100_1, i_100_2, p_100_2, i_100_3, p_100_3, t_104, q_104_1, q_104_2, q_104_3, q_104_4, q_104_5, q_104_6, q_104_8, q_104_9, q_104_11, q_104_12, q_104_18, q_104_21, q_104_22, q_104_23, q_104_24, q_104_26, q_104_27, q_104_28, q_104_30, q_104_31, i_104_0, p_104_0, i_104_7, p_104_7, i_104_10, p_104_10, i_104_13, p_104_13, i_104_14, p_104_14, i_104_15, p_104_15, i_104_16, p_104_16, i_104_17, p_104_17, i_104_19, p_104_19, i_104_20, p_104_20, i_104_25, p_104_25, i_104_29, p_104_29, a_2, w_2, a_81, w_81, a_89, w_89, a_91, w_91, a_93, w_93, a_94, w_94, a_95, w_95, a_105, w_105, a_106, w_106, a_107, w_107, a_108, w_108, a_109, w_109, a_110, w_110, a_111, w_111, a_112, w_112, a_113, w_113, a_114, w_114, a_115, w_115, a_116, w_116, a_117, w_117, a_118, w_118, a_119, w_119, a_120, w_120, a_121, w_121, a_122, w_122, a_123, w_123, a_124, w_124, u3]
theorem TrI.fr {D' : Nat → Nat → Int} {o : Nat} (h : TrI D o n τ l) (e : D' o = D o) : TrI D' o n τ l := ⟨h.1, h.2.1, fun i hi => by rw [e]; exact h.2.2 i hi⟩
def csP (ch : Nat → Int) (on : Nat → Nat) (τ : Nat → Nat) (n : Nat) (t : Nat) : Int := cst ch on τ n (pmL n t)
theorem csP_b (hT : TaI n τ) (hc : ∀ s, s < 8 → 0 ≤ ch s ∧ ch s ≤ 1000000) (ho : ∀ s, s < 8 → on s ≤ 24) {t : Nat} (ht : t < facN n) : 0 ≤ csP ch on τ n t ∧ csP ch on τ n t ≤ 1000000 := by
  obtain ⟨p1, p2, p3⟩ := pm_ok hT.1 ht
  have n5 := hT.1
  have := (cwT_b (v := fun i => τ ((pmL n t).getD i 0)) (n := n) hc ho (fun i hi => hT.2.2 _ (p2 i hi)) n5 n (Nat.le_refl _)).1
  unfold csP cst
  omega
theorem bsP_b (hT : TaI n τ) (hc : ∀ s, s < 8 → 0 ≤ ch s ∧ ch s ≤ 1000000) (ho : ∀ s, s < 8 → on s ≤ 24) {t : Nat} (ht : t < facN n) : 0 ≤ (bsT (csP ch on τ n) t).2 ∧ (bsT (csP ch on τ n) t).2 ≤ 1000000 := by
  induction t with
  | zero => exact csP_b hT hc ho ht
  | succ t ih =>
    have h1 := csP_b (ch := ch) (on := on) hT hc ho ht
    have h2 := ih (by omega)
    show 0 ≤ (if csP ch on τ n (t + 1) < (bsT (csP ch on τ n) t).2 then (t + 1, csP ch on τ n (t + 1)) else bsT (csP ch on τ n) t).2 ∧ (if csP ch on τ n (t + 1) < (bsT (csP ch on τ n) t).2 then (t + 1, csP ch on τ n (t + 1)) else bsT (csP ch on τ n) t).2 ≤ _
    split
    · exact h1
    · exact h2
theorem pm_T (hn : n ≤ 5) {t : Nat} (ht : t < facN n) {o : Nat} (h : ∀ i, i < n → D o i = τ ((pmL n t).getD i 0)) : TrI D o n τ (pmL n t) := by
  obtain ⟨p1, p2, p3⟩ := pm_ok hn ht
  exact ⟨p1, p2, h⟩
theorem s_find (hT : TaI n τ) {E : Nat → Nat → Int} (hE : TrI E 94 n τ (pmL n 0)) (hn : E 92 3 = n) (hc : ∀ s, s < 8 → 0 ≤ ch s ∧ ch s ≤ 1000000) (h93 : ∀ s, s < 8 → E 93 s = ch s) (k1 : RowC E 82 A) (k3 : RwOk A nb) (hnb : nb ≤ 24) (hon : ∀ s, s < 8 → A.2.2 s ≤ 24) : ∃ D : Nat → Nat → Int, (∀ a, a ≠ 92 → a ≠ 94 → a ≠ 95 → D a = E a) ∧ D 92 3 = n ∧ D 92 4 = (bsT (csP ch A.2.2 τ n) (facN n - 1)).2 ∧ TrI D 95 n τ (pmL n (bsT (csP ch A.2.2 τ n) (facN n - 1)).1) ∧ ∀ K, PX7_find (ad z 92) (ad z 82) (lay z g E) K = K (lay z g D) := by
  have n5 := hT.1
  have fb := facN_b n n5
  have key : ∀ t, t < facN n → ∃ D : Nat → Nat → Int, (∀ a, a ≠ 92 → a ≠ 94 → a ≠ 95 → D a = E a) ∧ D 92 3 = n ∧ D 92 4 = (bsT (csP ch A.2.2 τ n) t).2 ∧ TrI D 94 n τ (pmL n t) ∧ TrI D 95 n τ (pmL n (bsT (csP ch A.2.2 τ n) t).1) ∧ ∀ K, PX7_find (ad z 92) (ad z 82) (lay z g E) K = lp (BX7_find_11 K (ad z 92) (ad z 82)) (lay z g D, J (t + 1 : Nat)) := by
    intro t
    induction t with
    | zero =>
      intro _
      refine ⟨kbC (up E 92 4 (csP ch A.2.2 τ n 0)) 95 94 n, fun a h1 h2 h3 => by rw [kbC_ne h3, up_ne h1], by rw [kbC_ne (by omega), up_nk (by omega)]; exact hn, by rw [kbC_ne (by omega), up_eq]; rfl, hE.fr (by rw [kbC_ne (by omega), up_ne (by omega)]), ?_, fun K => ?_⟩
      · refine pm_T n5 (by show 0 < _; omega) fun i hi => ?_
        unfold kbC
        rw [if_pos ⟨rfl, hi⟩, up_ne (by omega)]
        exact hE.2.2 i hi
      · unfold PX7_find
        simp (disch := omega) only [J_add, J_sub, J_mul, J_lt, J_le, J_eq, xbr_true, xbr_false, xbr_pos, xbr_neg, Int.toNat_natCast, all_eq, ex_eq, t_0, q_0_0, q_0_1, q_0_2, q_0_3, q_0_4, q_0_5, q_0_6, q_0_7, q_0_8, q_0_9, i_0_10, p_0_10, i_0_11, p_0_11, i_0_12, p_0_12, t_1, q_1_0, t_3, q_3_0, q_3_1, i_3_2, p_3_2, i_3_3, p_3_3, t_80, q_80_0, t_88, q_88_0, t_90, q_90_0, t_92, q_92_0, q_92_1, q_92_2, i_92_3, p_92_3, i_92_4, p_92_4, t_96, q_96_0, i_96_1, p_96_1, i_96_2, p_96_2, i_96_3, p_96_3, t_100, q_100_0, i_100_1, p_100_1, i_100_2, p_100_2, i_100_3, p_100_3, t_104, q_104_1, q_104_2, q_104_3, q_104_4, q_104_5, q_104_6, q_104_8, q_104_9, q_104_11, q_104_12, q_104_18, q_104_21, q_104_22, q_104_23, q_104_24, q_104_26, q_104_27, q_104_28, q_104_30, q_104_31, i_104_0, p_104_0, i_104_7, p_104_7, i_104_10, p_104_10, i_104_13, p_104_13, i_104_14, p_104_14, i_104_15, p_104_15, i_104_16, p_104_16, i_104_17, p_104_17, i_104_19, p_104_19, i_104_20, p_104_20, i_104_25, p_104_25, i_104_29, p_104_29, a_2, w_2, a_81, w_81, a_89, w_89, a_91, w_91, a_93, w_93, a_94, w_94, a_95, w_95, a_105, w_105, a_106, w_106, a_107, w_107, a_108, w_108, a_109, w_109, a_110, w_110, a_111, w_111, a_112, w_112, a_113, w_113, a_114, w_114, a_115, w_115, a_116, w_116, a_117, w_117, a_118, w_118, a_119, w_119, a_120, w_120, a_121, w_121, a_122, w_122, a_123, w_123, a_124, w_124, s_cost hT hE hn hc h93 k1 k3 hnb, s_keepBest hn n5]
        rfl
    | succ t ih =>
      intro ht
      obtain ⟨D, d1, d2, d3, d4, d5, hD⟩ := ih (by omega)
      obtain ⟨p1, p2, p3⟩ := pm_ok n5 (show t < facN n by omega)
      obtain ⟨D', e1, e2, e3⟩ := (s_nextTour (z := z) (g := g) hT d4 d2).1 (p3.mpr (by omega))
      have e2' : TrI D' 94 n τ (pmL n (t + 1)) := e2
      have k1' : RowC D' 82 A := k1.fr (by rw [e1 _ (by omega), d1 _ (by omega) (by omega) (by omega)]) (by rw [e1 _ (by omega), d1 _ (by omega) (by omega) (by omega)]) (by rw [e1 _ (by omega), d1 _ (by omega) (by omega) (by omega)])
      have n3 : D' 92 3 = n := by rw [e1 _ (by omega)]; exact d2
      have n4 : D' 92 4 = (bsT (csP ch A.2.2 τ n) t).2 := by rw [e1 _ (by omega)]; exact d3
      have sc := fun K => s_cost (z := z) (g := g) (K := K) hT e2' n3 hc (fun s hs => by rw [e1 _ (by omega), d1 _ (by omega) (by omega) (by omega)]; exact h93 s hs) k1' k3 hnb
      have cb := csP_b (ch := ch) (on := A.2.2) hT hc hon ht
      have bb := bsP_b (ch := ch) (on := A.2.2) hT hc hon (show t < facN n by omega)
      have ec : cst ch A.2.2 τ n (pmL n (t + 1)) = csP ch A.2.2 τ n (t + 1) := rfl
      rw [ec] at sc
      have et : ((t + 1 : Nat) : Int) + 1 = ((t + 1 + 1 : Nat) : Int) := by omega
      by_cases c : csP ch A.2.2 τ n (t + 1) < (bsT (csP ch A.2.2 τ n) t).2
      · have eb : bsT (csP ch A.2.2 τ n) (t + 1) = (t + 1, csP ch A.2.2 τ n (t + 1)) := if_pos c
        rw [eb]
        refine ⟨kbC (up D' 92 4 (csP ch A.2.2 τ n (t + 1))) 95 94 n, fun a h1 h2 h3 => by rw [kbC_ne h3, up_ne h1, e1 a h2, d1 a h1 h2 h3], by rw [kbC_ne (by omega), up_nk (by omega)]; exact n3, by rw [kbC_ne (by omega), up_eq], e2'.fr (by rw [kbC_ne (by omega), up_ne (by omega)]), ?_, fun K => (hD K).trans (lp_step fun kc => ?_)⟩
        · refine pm_T n5 ht fun i hi => ?_
          unfold kbC
          rw [if_pos ⟨rfl, hi⟩, up_ne (by omega)]
          exact e2'.2.2 i hi
        · unfold BX7_find_11 CX7_find_11
          simp (disch := omega) only [J_add, J_sub, J_mul, J_lt, J_le, J_eq, xbr_true, xbr_false, xbr_pos, xbr_neg, Int.toNat_natCast, all_eq, ex_eq, t_0, q_0_0, q_0_1, q_0_2, q_0_3, q_0_4, q_0_5, q_0_6, q_0_7, q_0_8, q_0_9, i_0_10, p_0_10, i_0_11, p_0_11, i_0_12, p_0_12, t_1, q_1_0, t_3, q_3_0, q_3_1, i_3_2, p_3_2, i_3_3, p_3_3, t_80, q_80_0, t_88, q_88_0, t_90, q_90_0, t_92, q_92_0, q_92_1, q_92_2, i_92_3, p_92_3, i_92_4, p_92_4, t_96, q_96_0, i_96_1, p_96_1, i_96_2, p_96_2, i_96_3, p_96_3, t_100, q_100_0, i_100_1, p_100_1, i_100_2, p_100_2, i_100_3, p_100_3, t_104, q_104_1, q_104_2, q_104_3, q_104_4, q_104_5, q_104_6, q_104_8, q_104_9, q_104_11, q_104_12, q_104_18, q_104_21, q_104_22, q_104_23, q_104_24, q_104_26, q_104_27, q_104_28, q_104_30, q_104_31, i_104_0, p_104_0, i_104_7, p_104_7, i_104_10, p_104_10, i_104_13, p_104_13, i_104_14, p_104_14, i_104_15, p_104_15, i_104_16, p_104_16, i_104_17, p_104_17, i_104_19, p_104_19, i_104_20, p_104_20, i_104_25, p_104_25, i_104_29, p_104_29, a_2, w_2, a_81, w_81, a_89, w_89, a_91, w_91, a_93, w_93, a_94, w_94, a_95, w_95, a_105, w_105, a_106, w_106, a_107, w_107, a_108, w_108, a_109, w_109, a_110, w_110, a_111, w_111, a_112, w_112, a_113, w_113, a_114, w_114, a_115, w_115, a_116, w_116, a_117, w_117, a_118, w_118, a_119, w_119, a_120, w_120, a_121, w_121, a_122, w_122, a_123, w_123, a_124, w_124, e3, sc, n4, s_keepBest n3 n5, et]
      · have eb : bsT (csP ch A.2.2 τ n) (t + 1) = bsT (csP ch A.2.2 τ n) t := if_neg c
        rw [eb]
        refine ⟨D', fun a h1 h2 h3 => by rw [e1 a h2, d1 a h1 h2 h3], n3, n4, e2', d5.fr (e1 _ (by omega)), fun K => (hD K).trans (lp_step fun kc => ?_)⟩
        unfold BX7_find_11 CX7_find_11
        simp (disch := omega) only [J_add, J_sub, J_mul, J_lt, J_le, J_eq, xbr_true, xbr_false, xbr_pos, xbr_neg, Int.toNat_natCast, all_eq, ex_eq, t_0, q_0_0, q_0_1, q_0_2, q_0_3, q_0_4, q_0_5, q_0_6, q_0_7, q_0_8, q_0_9, i_0_10, p_0_10, i_0_11, p_0_11, i_0_12, p_0_12, t_1, q_1_0, t_3, q_3_0, q_3_1, i_3_2, p_3_2, i_3_3, p_3_3, t_80, q_80_0, t_88, q_88_0, t_90, q_90_0, t_92, q_92_0, q_92_1, q_92_2, i_92_3, p_92_3, i_92_4, p_92_4, t_96, q_96_0, i_96_1, p_96_1, i_96_2, p_96_2, i_96_3, p_96_3, t_100, q_100_0, i_100_1, p_100_1, i_100_2, p_100_2, i_100_3, p_100_3, t_104, q_104_1, q_104_2, q_104_3, q_104_4, q_104_5, q_104_6, q_104_8, q_104_9, q_104_11, q_104_12, q_104_18, q_104_21, q_104_22, q_104_23, q_104_24, q_104_26, q_104_27, q_104_28, q_104_30, q_104_31, i_104_0, p_104_0, i_104_7, p_104_7, i_104_10, p_104_10, i_104_13, p_104_13, i_104_14, p_104_14, i_104_15, p_104_15, i_104_16, p_104_16, i_104_17, p_104_17, i_104_19, p_104_19, i_104_20, p_104_20, i_104_25, p_104_25, i_104_29, p_104_29, a_2, w_2, a_81, w_81, a_89, w_89, a_91, w_91, a_93, w_93, a_94, w_94, a_95, w_95, a_105, w_105, a_106, w_106, a_107, w_107, a_108, w_108, a_109, w_109, a_110, w_110, a_111, w_111, a_112, w_112, a_113, w_113, a_114, w_114, a_115, w_115, a_116, w_116, a_117, w_117, a_118, w_118, a_119, w_119, a_120, w_120, a_121, w_121, a_122, w_122, a_123, w_123, a_124, w_124, e3, sc, n4, et]
  obtain ⟨D, d1, d2, d3, d4, d5, hD⟩ := key (facN n - 1) (by omega)
  obtain ⟨p1, p2, p3⟩ := pm_ok n5 (show facN n - 1 < facN n by omega)
  have nt := (s_nextTour (z := z) (g := g) hT d4 d2).2 (fun q => by have := p3.mp q; omega)
  refine ⟨D, d1, d2, d3, d5, fun K => (hD K).trans (lp_last fun kc => ?_)⟩
  unfold BX7_find_11 CX7_find_11
  by_cases c : facN n = 120
  · simp (disch := omega) only [J_add, J_sub, J_mul, J_lt, J_le, J_eq, xbr_true, xbr_false, xbr_pos, xbr_neg, Int.toNat_natCast, all_eq, ex_eq, t_0, q_0_0, q_0_1, q_0_2, q_0_3, q_0_4, q_0_5, q_0_6, q_0_7, q_0_8, q_0_9, i_0_10, p_0_10, i_0_11, p_0_11, i_0_12, p_0_12, t_1, q_1_0, t_3, q_3_0, q_3_1, i_3_2, p_3_2, i_3_3, p_3_3, t_80, q_80_0, t_88, q_88_0, t_90, q_90_0, t_92, q_92_0, q_92_1, q_92_2, i_92_3, p_92_3, i_92_4, p_92_4, t_96, q_96_0, i_96_1, p_96_1, i_96_2, p_96_2, i_96_3, p_96_3, t_100, q_100_0, i_100_1, p_100_1, i_100_2, p_100_2, i_100_3, p_100_3, t_104, q_104_1, q_104_2, q_104_3, q_104_4, q_104_5, q_104_6, q_104_8, q_104_9, q_104_11, q_104_12, q_104_18, q_104_21, q_104_22, q_104_23, q_104_24, q_104_26, q_104_27, q_104_28, q_104_30, q_104_31, i_104_0, p_104_0, i_104_7, p_104_7, i_104_10, p_104_10, i_104_13, p_104_13, i_104_14, p_104_14, i_104_15, p_104_15, i_104_16, p_104_16, i_104_17, p_104_17, i_104_19, p_104_19, i_104_20, p_104_20, i_104_25, p_104_25, i_104_29, p_104_29, a_2, w_2, a_81, w_81, a_89, w_89, a_91, w_91, a_93, w_93, a_94, w_94, a_95, w_95, a_105, w_105, a_106, w_106, a_107, w_107, a_108, w_108, a_109, w_109, a_110, w_110, a_111, w_111, a_112, w_112, a_113, w_113, a_114, w_114, a_115, w_115, a_116, w_116, a_117, w_117, a_118, w_118, a_119, w_119, a_120, w_120, a_121, w_121, a_122, w_122, a_123, w_123, a_124, w_124, c]
  · simp (disch := omega) only [J_add, J_sub, J_mul, J_lt, J_le, J_eq, xbr_true, xbr_false, xbr_pos, xbr_neg, Int.toNat_natCast, all_eq, ex_eq, t_0, q_0_0, q_0_1, q_0_2, q_0_3, q_0_4, q_0_5, q_0_6, q_0_7, q_0_8, q_0_9, i_0_10, p_0_10, i_0_11, p_0_11, i_0_12, p_0_12, t_1, q_1_0, t_3, q_3_0, q_3_1, i_3_2, p_3_2, i_3_3, p_3_3, t_80, q_80_0, t_88, q_88_0, t_90, q_90_0, t_92, q_92_0, q_92_1, q_92_2, i_92_3, p_92_3, i_92_4, p_92_4, t_96, q_96_0, i_96_1, p_96_1, i_96_2, p_96_2, i_96_3, p_96_3, t_100, q_100_0, i_100_1, p_100_1, i_100_2, p_100_2, i_100_3, p_100_3, t_104, q_104_1, q_104_2, q_104_3, q_104_4, q_104_5, q_104_6, q_104_8, q_104_9, q_104_11, q_104_12, q_104_18, q_104_21, q_104_22, q_104_23, q_104_24, q_104_26, q_104_27, q_104_28, q_104_30, q_104_31, i_104_0, p_104_0, i_104_7, p_104_7, i_104_10, p_104_10, i_104_13, p_104_13, i_104_14, p_104_14, i_104_15, p_104_15, i_104_16, p_104_16, i_104_17, p_104_17, i_104_19, p_104_19, i_104_20, p_104_20, i_104_25, p_104_25, i_104_29, p_104_29, a_2, w_2, a_81, w_81, a_89, w_89, a_91, w_91, a_93, w_93, a_94, w_94, a_95, w_95, a_105, w_105, a_106, w_106, a_107, w_107, a_108, w_108, a_109, w_109, a_110, w_110, a_111, w_111, a_112, w_112, a_113, w_113, a_114, w_114, a_115, w_115, a_116, w_116, a_117, w_117, a_118, w_118, a_119, w_119, a_120, w_120, a_121, w_121, a_122, w_122, a_123, w_123, a_124, w_124, nt]
theorem m_find64 (hT : TaI n τ) {E : Nat → Nat → Int} (hE : TrI E 120 n τ (pmL n 0)) (hn : E 104 25 = n) (hc : ∀ s, s < 8 → 0 ≤ ch s ∧ ch s ≤ 1000000) (h93 : ∀ s, s < 8 → E 122 s = ch s) (k2 : RowM E A) (k3 : RwOk A nb) (hon : ∀ s, s < 8 → A.2.2 s ≤ 24) : ∃ D : Nat → Nat → Int, (∀ a, a ≠ 120 → a ≠ 121 → D a = E a) ∧ TrI D 121 n τ (pmL n (bsT (csP ch A.2.2 τ n) (facN n - 1)).1) ∧ ∀ K, lp (BX11_findSearch_64 K (ad z 104)) (lay z g E, J (-1), J 1) = K (J (bsT (csP ch A.2.2 τ n) (facN n - 1)).2) (lay z g D) := by
  have n5 := hT.1
  have fb := facN_b n n5
  -- one order weighed
  have body : ∀ t, t < facN n → ∀ (D : Nat → Nat → Int) (p : Int), (∀ a, a ≠ 120 → a ≠ 121 → D a = E a) → TrI D 120 n τ (pmL n t) → (t = 0 → p = -1) → (∀ u, t = u + 1 → p = (bsT (csP ch A.2.2 τ n) u).2 ∧ TrI D 121 n τ (pmL n (bsT (csP ch A.2.2 τ n) u).1)) → ∃ D1 : Nat → Nat → Int, (∀ a, a ≠ 120 → a ≠ 121 → D1 a = E a) ∧ TrI D1 120 n τ (pmL n t) ∧ TrI D1 121 n τ (pmL n (bsT (csP ch A.2.2 τ n) t).1) ∧ ∀ K kc, BX11_findSearch_64 K (ad z 104) kc (lay z g D, J p, J 1) = JX11_findSearch_124 K kc (lay z g D1) (ad z 104) (J (bsT (csP ch A.2.2 τ n) t).2) := by
    intro t ht D p d1 d2 p0 p1
    have n3 : D 104 25 = n := by rw [d1 _ (by omega) (by omega)]; exact hn
    have k2' : RowM D A := k2.fr (by rw [d1 _ (by omega) (by omega)]) (d1 _ (by omega) (by omega)) (d1 _ (by omega) (by omega))
    have mw := fun K => m_weighed (z := z) (g := g) (K := K) hT d2 n3 hc (fun s hs => by rw [d1 _ (by omega) (by omega)]; exact h93 s hs) k2' k3
    obtain ⟨q1, q2, q3⟩ := pm_ok n5 ht
    have wb := (cwT_b (v := fun i => τ ((pmL n t).getD i 0)) (n := n) hc hon (fun i hi => hT.2.2 _ (q2 i hi)) n5 n (Nat.le_refl _)).1
    have cb := csP_b (ch := ch) (on := A.2.2) hT hc hon ht
    have ecs : (cwT ch A.2.2 (fun i => τ ((pmL n t).getD i 0)) n).1 / 1000 = csP ch A.2.2 τ n t := rfl
    have cp : ∀ (K : Int32 → Mem → Prop) (kc : Mem × Int32 × Int32 → Prop) (v : Int32), JX11_findSearch_89 K kc (lay z g D) (ad z 104) v = JX11_findSearch_124 K kc (lay z g (kbC D 121 120 n)) (ad z 104) v := fun K kc v => m_copy95 n3 n5
    have nw : TrI (kbC D 121 120 n) 121 n τ (pmL n t) := pm_T n5 ht fun i hi => by
      unfold kbC
      rw [if_pos ⟨rfl, hi⟩]
      exact d2.2.2 i hi
    generalize (cwT ch A.2.2 (fun i => τ ((pmL n t).getD i 0)) n).1 = w at *
    cases t with
    | zero =>
      have hp := p0 rfl
      refine ⟨kbC D 121 120 n, fun a h1 h2 => by rw [kbC_ne h2, d1 a h1 h2], d2.fr (kbC_ne (by omega)), nw, fun K kc => ?_⟩
      unfold BX11_findSearch_64 CX11_findSearch_64
      simp (disch := omega) only [J_add, J_sub, J_mul, J_lt, J_le, J_eq, xbr_true, xbr_false, xbr_pos, xbr_neg, Int.toNat_natCast, all_eq, ex_eq, t_0, q_0_0, q_0_1, q_0_2, q_0_3, q_0_4, q_0_5, q_0_6, q_0_7, q_0_8, q_0_9, i_0_10, p_0_10, i_0_11, p_0_11, i_0_12, p_0_12, t_1, q_1_0, t_3, q_3_0, q_3_1, i_3_2, p_3_2, i_3_3, p_3_3, t_80, q_80_0, t_88, q_88_0, t_90, q_90_0, t_92, q_92_0, q_92_1, q_92_2, i_92_3, p_92_3, i_92_4, p_92_4, t_96, q_96_0, i_96_1, p_96_1, i_96_2, p_96_2, i_96_3, p_96_3, t_100, q_100_0, i_100_1, p_100_1, i_100_2, p_100_2, i_100_3, p_100_3, t_104, q_104_1, q_104_2, q_104_3, q_104_4, q_104_5, q_104_6, q_104_8, q_104_9, q_104_11, q_104_12, q_104_18, q_104_21, q_104_22, q_104_23, q_104_24, q_104_26, q_104_27, q_104_28, q_104_30, q_104_31, i_104_0, p_104_0, i_104_7, p_104_7, i_104_10, p_104_10, i_104_13, p_104_13, i_104_14, p_104_14, i_104_15, p_104_15, i_104_16, p_104_16, i_104_17, p_104_17, i_104_19, p_104_19, i_104_20, p_104_20, i_104_25, p_104_25, i_104_29, p_104_29, a_2, w_2, a_81, w_81, a_89, w_89, a_91, w_91, a_93, w_93, a_94, w_94, a_95, w_95, a_105, w_105, a_106, w_106, a_107, w_107, a_108, w_108, a_109, w_109, a_110, w_110, a_111, w_111, a_112, w_112, a_113, w_113, a_114, w_114, a_115, w_115, a_116, w_116, a_117, w_117, a_118, w_118, a_119, w_119, a_120, w_120, a_121, w_121, a_122, w_122, a_123, w_123, a_124, w_124, mw, LJ_div, LJ_int, ecs, hp, cp]
      rfl
    | succ u =>
      obtain ⟨hp, hb⟩ := p1 u rfl
      have bb := bsP_b (ch := ch) (on := A.2.2) hT hc hon (show u < facN n by omega)
      by_cases c : csP ch A.2.2 τ n (u + 1) < (bsT (csP ch A.2.2 τ n) u).2
      · have eb : bsT (csP ch A.2.2 τ n) (u + 1) = (u + 1, csP ch A.2.2 τ n (u + 1)) := if_pos c
        rw [eb]
        refine ⟨kbC D 121 120 n, fun a h1 h2 => by rw [kbC_ne h2, d1 a h1 h2], d2.fr (kbC_ne (by omega)), nw, fun K kc => ?_⟩
        unfold BX11_findSearch_64 CX11_findSearch_64
        simp (disch := omega) only [J_add, J_sub, J_mul, J_lt, J_le, J_eq, xbr_true, xbr_false, xbr_pos, xbr_neg, Int.toNat_natCast, all_eq, ex_eq, t_0, q_0_0, q_0_1, q_0_2, q_0_3, q_0_4, q_0_5, q_0_6, q_0_7, q_0_8, q_0_9, i_0_10, p_0_10, i_0_11, p_0_11, i_0_12, p_0_12, t_1, q_1_0, t_3, q_3_0, q_3_1, i_3_2, p_3_2, i_3_3, p_3_3, t_80, q_80_0, t_88, q_88_0, t_90, q_90_0, t_92, q_92_0, q_92_1, q_92_2, i_92_3, p_92_3, i_92_4, p_92_4, t_96, q_96_0, i_96_1, p_96_1, i_96_2, p_96_2, i_96_3, p_96_3, t_100, q_100_0, i_100_1, p_100_1, i_100_2, p_100_2, i_100_3, p_100_3, t_104, q_104_1, q_104_2, q_104_3, q_104_4, q_104_5, q_104_6, q_104_8, q_104_9, q_104_11, q_104_12, q_104_18, q_104_21, q_104_22, q_104_23, q_104_24, q_104_26, q_104_27, q_104_28, q_104_30, q_104_31, i_104_0, p_104_0, i_104_7, p_104_7, i_104_10, p_104_10, i_104_13, p_104_13, i_104_14, p_104_14, i_104_15, p_104_15, i_104_16, p_104_16, i_104_17, p_104_17, i_104_19, p_104_19, i_104_20, p_104_20, i_104_25, p_104_25, i_104_29, p_104_29, a_2, w_2, a_81, w_81, a_89, w_89, a_91, w_91, a_93, w_93, a_94, w_94, a_95, w_95, a_105, w_105, a_106, w_106, a_107, w_107, a_108, w_108, a_109, w_109, a_110, w_110, a_111, w_111, a_112, w_112, a_113, w_113, a_114, w_114, a_115, w_115, a_116, w_116, a_117, w_117, a_118, w_118, a_119, w_119, a_120, w_120, a_121, w_121, a_122, w_122, a_123, w_123, a_124, w_124, mw, LJ_div, LJ_int, ecs, hp, cp]
      · have eb : bsT (csP ch A.2.2 τ n) (u + 1) = bsT (csP ch A.2.2 τ n) u := if_neg c
        rw [eb]
        refine ⟨D, d1, d2, hb, fun K kc => ?_⟩
        unfold BX11_findSearch_64 CX11_findSearch_64
        simp (disch := omega) only [J_add, J_sub, J_mul, J_lt, J_le, J_eq, xbr_true, xbr_false, xbr_pos, xbr_neg, Int.toNat_natCast, all_eq, ex_eq, t_0, q_0_0, q_0_1, q_0_2, q_0_3, q_0_4, q_0_5, q_0_6, q_0_7, q_0_8, q_0_9, i_0_10, p_0_10, i_0_11, p_0_11, i_0_12, p_0_12, t_1, q_1_0, t_3, q_3_0, q_3_1, i_3_2, p_3_2, i_3_3, p_3_3, t_80, q_80_0, t_88, q_88_0, t_90, q_90_0, t_92, q_92_0, q_92_1, q_92_2, i_92_3, p_92_3, i_92_4, p_92_4, t_96, q_96_0, i_96_1, p_96_1, i_96_2, p_96_2, i_96_3, p_96_3, t_100, q_100_0, i_100_1, p_100_1, i_100_2, p_100_2, i_100_3, p_100_3, t_104, q_104_1, q_104_2, q_104_3, q_104_4, q_104_5, q_104_6, q_104_8, q_104_9, q_104_11, q_104_12, q_104_18, q_104_21, q_104_22, q_104_23, q_104_24, q_104_26, q_104_27, q_104_28, q_104_30, q_104_31, i_104_0, p_104_0, i_104_7, p_104_7, i_104_10, p_104_10, i_104_13, p_104_13, i_104_14, p_104_14, i_104_15, p_104_15, i_104_16, p_104_16, i_104_17, p_104_17, i_104_19, p_104_19, i_104_20, p_104_20, i_104_25, p_104_25, i_104_29, p_104_29, a_2, w_2, a_81, w_81, a_89, w_89, a_91, w_91, a_93, w_93, a_94, w_94, a_95, w_95, a_105, w_105, a_106, w_106, a_107, w_107, a_108, w_108, a_109, w_109, a_110, w_110, a_111, w_111, a_112, w_112, a_113, w_113, a_114, w_114, a_115, w_115, a_116, w_116, a_117, w_117, a_118, w_118, a_119, w_119, a_120, w_120, a_121, w_121, a_122, w_122, a_123, w_123, a_124, w_124, mw, LJ_div, LJ_int, ecs, hp]
  have key : ∀ t, t < facN n → ∃ (D : Nat → Nat → Int) (p : Int), (∀ a, a ≠ 120 → a ≠ 121 → D a = E a) ∧ TrI D 120 n τ (pmL n t) ∧ (t = 0 → p = -1) ∧ (∀ u, t = u + 1 → p = (bsT (csP ch A.2.2 τ n) u).2 ∧ TrI D 121 n τ (pmL n (bsT (csP ch A.2.2 τ n) u).1)) ∧ ∀ K, lp (BX11_findSearch_64 K (ad z 104)) (lay z g E, J (-1), J 1) = lp (BX11_findSearch_64 K (ad z 104)) (lay z g D, J p, J 1) := by
    intro t
    induction t with
    | zero => exact fun _ => ⟨E, -1, fun _ _ _ => rfl, hE, fun _ => rfl, fun u hu => by omega, fun _ => rfl⟩
    | succ t ih =>
      intro ht
      obtain ⟨D, p, d1, d2, d3, d4, hD⟩ := ih (by omega)
      obtain ⟨D1, e1, e2, e3, hD1⟩ := body t (by omega) D p d1 d2 d3 d4
      obtain ⟨q1, q2, q3⟩ := pm_ok n5 (show t < facN n by omega)
      obtain ⟨D', f1, f2, f3⟩ := (m_nextRow (z := z) (g := g) hT e2 (by rw [e1 _ (by omega) (by omega)]; exact hn)).1 (q3.mpr (by omega))
      refine ⟨D', (bsT (csP ch A.2.2 τ n) t).2, fun a h1 h2 => by rw [f1 a h1, e1 a h1 h2], f2, fun q => by omega, fun u hu => ?_, fun K => (hD K).trans (lp_step fun kc => ?_)⟩
      · have : u = t := by omega
        subst this
        exact ⟨rfl, e3.fr (f1 _ (by omega))⟩
      · rw [hD1]
        unfold JX11_findSearch_124
        rw [f3]
  obtain ⟨D, p, d1, d2, d3, d4, hD⟩ := key (facN n - 1) (by omega)
  obtain ⟨D1, e1, e2, e3, hD1⟩ := body (facN n - 1) (by omega) D p d1 d2 d3 d4
  obtain ⟨q1, q2, q3⟩ := pm_ok n5 (show facN n - 1 < facN n by omega)
  have nt := (m_nextRow (z := z) (g := g) hT e2 (by rw [e1 _ (by omega) (by omega)]; exact hn)).2 (fun q => by have := q3.mp q; omega)
  refine ⟨D1, e1, e3, fun K => ?_⟩
  rw [hD]
  have st : lp (BX11_findSearch_64 K (ad z 104)) (lay z g D, J p, J 1) = lp (BX11_findSearch_64 K (ad z 104)) (lay z g D1, J (bsT (csP ch A.2.2 τ n) (facN n - 1)).2, J 0) := lp_step fun kc => by
    rw [hD1]
    unfold JX11_findSearch_124
    rw [nt]
  rw [st]
  refine lp_last fun kc => ?_
  unfold BX11_findSearch_64 CX11_findSearch_64
  simp (disch := omega) only [J_add, J_sub, J_mul, J_lt, J_le, J_eq, xbr_true, xbr_false, xbr_pos, xbr_neg, Int.toNat_natCast, all_eq, ex_eq]
theorem op_search (h : Inv C nb A) {b i : Int} (hb : -2147483648 ≤ b ∧ b < 2147483648) (hi : -2147483648 ≤ i ∧ i < 2147483648) : ∃ (r : Int) (C1 C2 : Nat → Nat → Int), (∀ K, PX10_search (ad z 0) (J b) (J i) (lay z g C) K = K (J r) (lay z g C1)) ∧ (∀ K, PX11_search (ad z 104) (J b) (J i) (lay z g C1) K = K (J r) (lay z g C2)) ∧ Inv C2 nb A := by
  obtain ⟨g1, g2, g3, g4, g5, g6, g7⟩ := h.2.1
  obtain ⟨k1, k2, k3⟩ := h.2.2.2.2.2.2.1
  have hst := fun b hb K => h.stands (z := z) (g := g) (b := b) hb K
  obtain ⟨hc, hm, he⟩ := h.hh
  have l24 := k2.2.1
  by_cases c1 : 0 ≤ b ∧ b < nb
  · obtain ⟨x, rfl⟩ : ∃ x : Nat, b = x := ⟨b.toNat, by omega⟩
    have hx : x < nb := by omega
    by_cases c : idx A x < A.1
    · refine ⟨-1003, C, C, fun K => ?_, fun K => ?_, h⟩
      · unfold PX10_search
        simp (disch := omega) only [J_add, J_sub, J_mul, J_lt, J_le, J_eq, xbr_true, xbr_false, xbr_pos, xbr_neg, Int.toNat_natCast, all_eq, ex_eq, t_0, q_0_0, q_0_1, q_0_2, q_0_3, q_0_4, q_0_5, q_0_6, q_0_7, q_0_8, q_0_9, i_0_10, p_0_10, i_0_11, p_0_11, i_0_12, p_0_12, t_1, q_1_0, t_3, q_3_0, q_3_1, i_3_2, p_3_2, i_3_3, p_3_3, t_80, q_80_0, t_88, q_88_0, t_90, q_90_0, t_92, q_92_0, q_92_1, q_92_2, i_92_3, p_92_3, i_92_4, p_92_4, t_96, q_96_0, i_96_1, p_96_1, i_96_2, p_96_2, i_96_3, p_96_3, t_100, q_100_0, i_100_1, p_100_1, i_100_2, p_100_2, i_100_3, p_100_3, t_104, q_104_1, q_104_2, q_104_3, q_104_4, q_104_5, q_104_6, q_104_8, q_104_9, q_104_11, q_104_12, q_104_18, q_104_21, q_104_22, q_104_23, q_104_24, q_104_26, q_104_27, q_104_28, q_104_30, q_104_31, i_104_0, p_104_0, i_104_7, p_104_7, i_104_10, p_104_10, i_104_13, p_104_13, i_104_14, p_104_14, i_104_15, p_104_15, i_104_16, p_104_16, i_104_17, p_104_17, i_104_19, p_104_19, i_104_20, p_104_20, i_104_25, p_104_25, i_104_29, p_104_29, a_2, w_2, a_81, w_81, a_89, w_89, a_91, w_91, a_93, w_93, a_94, w_94, a_95, w_95, a_105, w_105, a_106, w_106, a_107, w_107, a_108, w_108, a_109, w_109, a_110, w_110, a_111, w_111, a_112, w_112, a_113, w_113, a_114, w_114, a_115, w_115, a_116, w_116, a_117, w_117, a_118, w_118, a_119, w_119, a_120, w_120, a_121, w_121, a_122, w_122, a_123, w_123, a_124, w_124, s_has, hst x hx, if_pos c]
      · unfold PX11_search
        simp (disch := omega) only [J_add, J_sub, J_mul, J_lt, J_le, J_eq, xbr_true, xbr_false, xbr_pos, xbr_neg, Int.toNat_natCast, all_eq, ex_eq, t_0, q_0_0, q_0_1, q_0_2, q_0_3, q_0_4, q_0_5, q_0_6, q_0_7, q_0_8, q_0_9, i_0_10, p_0_10, i_0_11, p_0_11, i_0_12, p_0_12, t_1, q_1_0, t_3, q_3_0, q_3_1, i_3_2, p_3_2, i_3_3, p_3_3, t_80, q_80_0, t_88, q_88_0, t_90, q_90_0, t_92, q_92_0, q_92_1, q_92_2, i_92_3, p_92_3, i_92_4, p_92_4, t_96, q_96_0, i_96_1, p_96_1, i_96_2, p_96_2, i_96_3, p_96_3, t_100, q_100_0, i_100_1, p_100_1, i_100_2, p_100_2, i_100_3, p_100_3, t_104, q_104_1, q_104_2, q_104_3, q_104_4, q_104_5, q_104_6, q_104_8, q_104_9, q_104_11, q_104_12, q_104_18, q_104_21, q_104_22, q_104_23, q_104_24, q_104_26, q_104_27, q_104_28, q_104_30, q_104_31, i_104_0, p_104_0, i_104_7, p_104_7, i_104_10, p_104_10, i_104_13, p_104_13, i_104_14, p_104_14, i_104_15, p_104_15, i_104_16, p_104_16, i_104_17, p_104_17, i_104_19, p_104_19, i_104_20, p_104_20, i_104_25, p_104_25, i_104_29, p_104_29, a_2, w_2, a_81, w_81, a_89, w_89, a_91, w_91, a_93, w_93, a_94, w_94, a_95, w_95, a_105, w_105, a_106, w_106, a_107, w_107, a_108, w_108, a_109, w_109, a_110, w_110, a_111, w_111, a_112, w_112, a_113, w_113, a_114, w_114, a_115, w_115, a_116, w_116, a_117, w_117, a_118, w_118, a_119, w_119, a_120, w_120, a_121, w_121, a_122, w_122, a_123, w_123, a_124, w_124, m_isBook, m_placeOf k2 k3 g1 (b := x) (by omega), if_pos c]
    · have hon : ∀ s, s < 8 → A.2.2 s ≤ 24 := fun s hs => by
        have := on_le k3 (s := s + 1) (by omega)
        have e : sumN A.2.2 (s + 1) = sumN A.2.2 s + A.2.2 s := rfl
        omega
      have cb := fun s => chA_b (C := C) (A := A) (H := C 113) hm x s
      have l8 := (tlL_ok (ch := chA (C 113) C A x) 8).2.2
      have l9 := led_five (H := C 113) (C := C) (A := A) (b := x) 8
      have hT := tl_T (ch := chA (C 113) C A x) (by omega)
      obtain ⟨E, e1, e2, e3, e4, hE⟩ := s_begin (z := z) (g := g) h hx 8 (Nat.le_refl _)
      generalize hch : chA (C 113) C A x = ch at *
      generalize hnn : (tlL ch 8).length = n at *
      have n5 := hT.1
      have fb := facN_b n n5
      have tr : ∀ (D : Nat → Nat → Int) (o : Nat), (∀ i, i < n → D o i = (tlL ch 8).getD i 0) → TrI D o n (fun i => (tlL ch 8).getD i 0) (pmL n 0) := fun D o hD => pm_T n5 (by omega) fun i hi => by
        rw [hD i hi]
        show _ = (((tlL ch 8).getD ((List.range n).getD i 0) 0 : Nat) : Int)
        rw [range_at hi]
      obtain ⟨D, d1, d2, d3, d4, hD⟩ := s_find (z := z) (g := g) hT (tr E 94 e4) e2 (fun s _ => cb s) e3 (k1.fr (e1 _ (by omega) (by omega) (by omega)) (e1 _ (by omega) (by omega) (by omega)) (e1 _ (by omega) (by omega) (by omega))) k3 g1 hon
      have dC : ∀ a, a < 92 ∨ 95 < a → D a = C a := fun a ha => by rw [d1 a (by omega) (by omega) (by omega), e1 a (by omega) (by omega) (by omega)]
      have fin7 := m_find7 (z := z) (g := g) h dC hx 8 (Nat.le_refl _)
      rw [hch] at fin7
      obtain ⟨F, f1, f0, f2, f3, f4, hF⟩ := fin7
      rw [hnn] at f2 f4
      have k2F : RowM F A := k2.fr (by rw [f0 _ (by omega), dC _ (by omega)]) (by rw [f1 _ (by omega) (by omega) (by omega), dC _ (by omega)]) (by rw [f1 _ (by omega) (by omega) (by omega), dC _ (by omega)])
      obtain ⟨G, q1, q2, hG⟩ := m_find64 (z := z) (g := g) hT (tr F 120 f4) f2 (fun s _ => cb s) f3 k2F k3 hon
      have bb := bsP_b (ch := ch) (on := A.2.2) hT (fun s _ => cb s) hon (show facN n - 1 < facN n by omega)
      generalize bsT (csP ch A.2.2 (fun i => (tlL ch 8).getD i 0) n) (facN n - 1) = bs at *
      have gC : ∀ a, a < 92 ∨ 95 < a → a ≠ 104 → a ≠ 120 → a ≠ 121 → a ≠ 122 → G a = C a := fun a h1 h2 h3 h4 h5 => by rw [q1 a h3 h4, f1 a h2 h3 h5, dC a h1]
      have g104 : ∀ j, j ≠ 25 → G 104 j = C 104 j := fun j hj => by rw [q1 _ (by omega) (by omega), f0 j hj, dC _ (by omega)]
      have G25 : G 104 25 = n := by rw [q1 _ (by omega) (by omega)]; exact f2
      have inv2 : Inv G nb A := by
        refine h.work (fun a ha => ?_) (fun j hj => g104 j (by omega)) (h.2.2.2.2.2.2.1.fr (fun a _ _ => gC a (by omega) (by omega) (by omega) (by omega) (by omega)) (g104 _ (by omega)) (gC _ (by omega) (by omega) (by omega) (by omega) (by omega)) (gC _ (by omega) (by omega) (by omega) (by omega) (by omega))) (h.2.2.2.2.2.2.2.1.fr (gC _ (by omega) (by omega) (by omega) (by omega) (by omega)) (gC _ (by omega) (by omega) (by omega) (by omega) (by omega)) (gC _ (by omega) (by omega) (by omega) (by omega) (by omega)))
        unfold freeO at ha
        exact gC a (by omega) (by omega) (by omega) (by omega) (by omega)
      have vb : ∀ j, j < n → D 95 j = G 121 j ∧ 0 ≤ D 95 j ∧ D 95 j < 8 := fun j hj => by
        rw [d4.2.2 j hj, q2.2.2 j hj]
        have := hT.2.2 _ (d4.2.1 j hj)
        exact ⟨rfl, by omega, by omega⟩
      have cls : ∀ K, PX10_search (ad z 0) (J (x : Nat)) (J i) (lay z g C) K = xbr (J i = J (-1)) (K (J bs.2) (lay z g D)) (PX7_shelfAt (ad z 92) (J i) (lay z g D) fun r21 => K r21 (lay z g D)) := fun K => by
        have hB : ∀ K, PX7_begin (ad z 92) (ad z 82) (ad z 3) (ad z 90) (J (x : Nat)) (lay z g C) K = K (lay z g E) := fun K => by
          unfold PX7_begin
          simp (disch := omega) only [J_add, J_sub, J_mul, J_lt, J_le, J_eq, xbr_true, xbr_false, xbr_pos, xbr_neg, Int.toNat_natCast, all_eq, ex_eq, t_0, q_0_0, q_0_1, q_0_2, q_0_3, q_0_4, q_0_5, q_0_6, q_0_7, q_0_8, q_0_9, i_0_10, p_0_10, i_0_11, p_0_11, i_0_12, p_0_12, t_1, q_1_0, t_3, q_3_0, q_3_1, i_3_2, p_3_2, i_3_3, p_3_3, t_80, q_80_0, t_88, q_88_0, t_90, q_90_0, t_92, q_92_0, q_92_1, q_92_2, i_92_3, p_92_3, i_92_4, p_92_4, t_96, q_96_0, i_96_1, p_96_1, i_96_2, p_96_2, i_96_3, p_96_3, t_100, q_100_0, i_100_1, p_100_1, i_100_2, p_100_2, i_100_3, p_100_3, t_104, q_104_1, q_104_2, q_104_3, q_104_4, q_104_5, q_104_6, q_104_8, q_104_9, q_104_11, q_104_12, q_104_18, q_104_21, q_104_22, q_104_23, q_104_24, q_104_26, q_104_27, q_104_28, q_104_30, q_104_31, i_104_0, p_104_0, i_104_7, p_104_7, i_104_10, p_104_10, i_104_13, p_104_13, i_104_14, p_104_14, i_104_15, p_104_15, i_104_16, p_104_16, i_104_17, p_104_17, i_104_19, p_104_19, i_104_20, p_104_20, i_104_25, p_104_25, i_104_29, p_104_29, a_2, w_2, a_81, w_81, a_89, w_89, a_91, w_91, a_93, w_93, a_94, w_94, a_95, w_95, a_105, w_105, a_106, w_106, a_107, w_107, a_108, w_108, a_109, w_109, a_110, w_110, a_111, w_111, a_112, w_112, a_113, w_113, a_114, w_114, a_115, w_115, a_116, w_116, a_117, w_117, a_118, w_118, a_119, w_119, a_120, w_120, a_121, w_121, a_122, w_122, a_123, w_123, a_124, w_124]
          rw [hE]
          refine lp_last fun kc => ?_
          unfold BX7_begin_8 CX7_begin_8
          simp (disch := omega) only [J_add, J_sub, J_mul, J_lt, J_le, J_eq, xbr_true, xbr_false, xbr_pos, xbr_neg, Int.toNat_natCast, all_eq, ex_eq]
        unfold PX10_search PX7_leastCost
        simp (disch := omega) only [J_add, J_sub, J_mul, J_lt, J_le, J_eq, xbr_true, xbr_false, xbr_pos, xbr_neg, Int.toNat_natCast, all_eq, ex_eq, t_0, q_0_0, q_0_1, q_0_2, q_0_3, q_0_4, q_0_5, q_0_6, q_0_7, q_0_8, q_0_9, i_0_10, p_0_10, i_0_11, p_0_11, i_0_12, p_0_12, t_1, q_1_0, t_3, q_3_0, q_3_1, i_3_2, p_3_2, i_3_3, p_3_3, t_80, q_80_0, t_88, q_88_0, t_90, q_90_0, t_92, q_92_0, q_92_1, q_92_2, i_92_3, p_92_3, i_92_4, p_92_4, t_96, q_96_0, i_96_1, p_96_1, i_96_2, p_96_2, i_96_3, p_96_3, t_100, q_100_0, i_100_1, p_100_1, i_100_2, p_100_2, i_100_3, p_100_3, t_104, q_104_1, q_104_2, q_104_3, q_104_4, q_104_5, q_104_6, q_104_8, q_104_9, q_104_11, q_104_12, q_104_18, q_104_21, q_104_22, q_104_23, q_104_24, q_104_26, q_104_27, q_104_28, q_104_30, q_104_31, i_104_0, p_104_0, i_104_7, p_104_7, i_104_10, p_104_10, i_104_13, p_104_13, i_104_14, p_104_14, i_104_15, p_104_15, i_104_16, p_104_16, i_104_17, p_104_17, i_104_19, p_104_19, i_104_20, p_104_20, i_104_25, p_104_25, i_104_29, p_104_29, a_2, w_2, a_81, w_81, a_89, w_89, a_91, w_91, a_93, w_93, a_94, w_94, a_95, w_95, a_105, w_105, a_106, w_106, a_107, w_107, a_108, w_108, a_109, w_109, a_110, w_110, a_111, w_111, a_112, w_112, a_113, w_113, a_114, w_114, a_115, w_115, a_116, w_116, a_117, w_117, a_118, w_118, a_119, w_119, a_120, w_120, a_121, w_121, a_122, w_122, a_123, w_123, a_124, w_124, s_has, hst x hx, if_neg c, hB, hD, d3]
      have mls : ∀ K, PX11_search (ad z 104) (J (x : Nat)) (J i) (lay z g D) K = xbr (J i = J (-1)) (K (J bs.2) (lay z g G)) (PX11_in (J i).toInt64 (LJ 0) (J ((n : Int) - 1)).toInt64 (lay z g G) fun r11 => xbr (r11 = J 0) (K (J (-1)) (lay z g G)) (aI (lay z g G) (ad z 121) (J i) fun v15 => K v15 (lay z g G))) := fun K => by
        have k2D : RowM D A := k2.fr (by rw [dC _ (by omega)]) (dC _ (by omega)) (dC _ (by omega))
        have D0 : D 104 0 = nb := by rw [dC _ (by omega)]; exact g4
        have hS : ∀ K, PX11_findSearch (ad z 104) (J (x : Nat)) (lay z g D) K = K (J bs.2) (lay z g G) := fun K => by
          unfold PX11_findSearch
          simp (disch := omega) only [J_add, J_sub, J_mul, J_lt, J_le, J_eq, xbr_true, xbr_false, xbr_pos, xbr_neg, Int.toNat_natCast, all_eq, ex_eq, t_0, q_0_0, q_0_1, q_0_2, q_0_3, q_0_4, q_0_5, q_0_6, q_0_7, q_0_8, q_0_9, i_0_10, p_0_10, i_0_11, p_0_11, i_0_12, p_0_12, t_1, q_1_0, t_3, q_3_0, q_3_1, i_3_2, p_3_2, i_3_3, p_3_3, t_80, q_80_0, t_88, q_88_0, t_90, q_90_0, t_92, q_92_0, q_92_1, q_92_2, i_92_3, p_92_3, i_92_4, p_92_4, t_96, q_96_0, i_96_1, p_96_1, i_96_2, p_96_2, i_96_3, p_96_3, t_100, q_100_0, i_100_1, p_100_1, i_100_2, p_100_2, i_100_3, p_100_3, t_104, q_104_1, q_104_2, q_104_3, q_104_4, q_104_5, q_104_6, q_104_8, q_104_9, q_104_11, q_104_12, q_104_18, q_104_21, q_104_22, q_104_23, q_104_24, q_104_26, q_104_27, q_104_28, q_104_30, q_104_31, i_104_0, p_104_0, i_104_7, p_104_7, i_104_10, p_104_10, i_104_13, p_104_13, i_104_14, p_104_14, i_104_15, p_104_15, i_104_16, p_104_16, i_104_17, p_104_17, i_104_19, p_104_19, i_104_20, p_104_20, i_104_25, p_104_25, i_104_29, p_104_29, a_2, w_2, a_81, w_81, a_89, w_89, a_91, w_91, a_93, w_93, a_94, w_94, a_95, w_95, a_105, w_105, a_106, w_106, a_107, w_107, a_108, w_108, a_109, w_109, a_110, w_110, a_111, w_111, a_112, w_112, a_113, w_113, a_114, w_114, a_115, w_115, a_116, w_116, a_117, w_117, a_118, w_118, a_119, w_119, a_120, w_120, a_121, w_121, a_122, w_122, a_123, w_123, a_124, w_124]
          rw [hF]
          refine lp_last fun kc => ?_
          unfold BX11_findSearch_7 CX11_findSearch_7
          simp (disch := omega) only [J_add, J_sub, J_mul, J_lt, J_le, J_eq, xbr_true, xbr_false, xbr_pos, xbr_neg, Int.toNat_natCast, all_eq, ex_eq]
          exact hG K
        unfold PX11_search
        simp (disch := omega) only [J_add, J_sub, J_mul, J_lt, J_le, J_eq, xbr_true, xbr_false, xbr_pos, xbr_neg, Int.toNat_natCast, all_eq, ex_eq, t_0, q_0_0, q_0_1, q_0_2, q_0_3, q_0_4, q_0_5, q_0_6, q_0_7, q_0_8, q_0_9, i_0_10, p_0_10, i_0_11, p_0_11, i_0_12, p_0_12, t_1, q_1_0, t_3, q_3_0, q_3_1, i_3_2, p_3_2, i_3_3, p_3_3, t_80, q_80_0, t_88, q_88_0, t_90, q_90_0, t_92, q_92_0, q_92_1, q_92_2, i_92_3, p_92_3, i_92_4, p_92_4, t_96, q_96_0, i_96_1, p_96_1, i_96_2, p_96_2, i_96_3, p_96_3, t_100, q_100_0, i_100_1, p_100_1, i_100_2, p_100_2, i_100_3, p_100_3, t_104, q_104_1, q_104_2, q_104_3, q_104_4, q_104_5, q_104_6, q_104_8, q_104_9, q_104_11, q_104_12, q_104_18, q_104_21, q_104_22, q_104_23, q_104_24, q_104_26, q_104_27, q_104_28, q_104_30, q_104_31, i_104_0, p_104_0, i_104_7, p_104_7, i_104_10, p_104_10, i_104_13, p_104_13, i_104_14, p_104_14, i_104_15, p_104_15, i_104_16, p_104_16, i_104_17, p_104_17, i_104_19, p_104_19, i_104_20, p_104_20, i_104_25, p_104_25, i_104_29, p_104_29, a_2, w_2, a_81, w_81, a_89, w_89, a_91, w_91, a_93, w_93, a_94, w_94, a_95, w_95, a_105, w_105, a_106, w_106, a_107, w_107, a_108, w_108, a_109, w_109, a_110, w_110, a_111, w_111, a_112, w_112, a_113, w_113, a_114, w_114, a_115, w_115, a_116, w_116, a_117, w_117, a_118, w_118, a_119, w_119, a_120, w_120, a_121, w_121, a_122, w_122, a_123, w_123, a_124, w_124, m_isBook, D0, m_placeOf k2D k3 g1 (b := x) (by omega), if_neg c, hS, G25]
      by_cases q : i = -1
      · refine ⟨bs.2, D, G, fun K => ?_, fun K => ?_, inv2⟩
        · rw [cls, q, xbr_pos rfl]
        · rw [mls, q, xbr_pos rfl]
      · have qn : ¬ J i = J (-1) := by
          rw [J_eq (by omega) (by omega) (by omega) (by omega)]; exact q
        by_cases q2 : 0 ≤ i ∧ i < n
        · obtain ⟨j, rfl⟩ : ∃ j : Nat, i = j := ⟨i.toNat, by omega⟩
          obtain ⟨v1, v2⟩ := vb j (by omega)
          refine ⟨D 95 j, D, G, fun K => ?_, fun K => ?_, inv2⟩
          · rw [cls, xbr_neg qn]
            unfold PX7_shelfAt
            simp (disch := omega) only [J_add, J_sub, J_mul, J_lt, J_le, J_eq, xbr_true, xbr_false, xbr_pos, xbr_neg, Int.toNat_natCast, all_eq, ex_eq, t_0, q_0_0, q_0_1, q_0_2, q_0_3, q_0_4, q_0_5, q_0_6, q_0_7, q_0_8, q_0_9, i_0_10, p_0_10, i_0_11, p_0_11, i_0_12, p_0_12, t_1, q_1_0, t_3, q_3_0, q_3_1, i_3_2, p_3_2, i_3_3, p_3_3, t_80, q_80_0, t_88, q_88_0, t_90, q_90_0, t_92, q_92_0, q_92_1, q_92_2, i_92_3, p_92_3, i_92_4, p_92_4, t_96, q_96_0, i_96_1, p_96_1, i_96_2, p_96_2, i_96_3, p_96_3, t_100, q_100_0, i_100_1, p_100_1, i_100_2, p_100_2, i_100_3, p_100_3, t_104, q_104_1, q_104_2, q_104_3, q_104_4, q_104_5, q_104_6, q_104_8, q_104_9, q_104_11, q_104_12, q_104_18, q_104_21, q_104_22, q_104_23, q_104_24, q_104_26, q_104_27, q_104_28, q_104_30, q_104_31, i_104_0, p_104_0, i_104_7, p_104_7, i_104_10, p_104_10, i_104_13, p_104_13, i_104_14, p_104_14, i_104_15, p_104_15, i_104_16, p_104_16, i_104_17, p_104_17, i_104_19, p_104_19, i_104_20, p_104_20, i_104_25, p_104_25, i_104_29, p_104_29, a_2, w_2, a_81, w_81, a_89, w_89, a_91, w_91, a_93, w_93, a_94, w_94, a_95, w_95, a_105, w_105, a_106, w_106, a_107, w_107, a_108, w_108, a_109, w_109, a_110, w_110, a_111, w_111, a_112, w_112, a_113, w_113, a_114, w_114, a_115, w_115, a_116, w_116, a_117, w_117, a_118, w_118, a_119, w_119, a_120, w_120, a_121, w_121, a_122, w_122, a_123, w_123, a_124, w_124, d2, s_ent8 (o := 95) rfl (show j < 8 by omega)]
          · rw [mls, xbr_neg qn]
            simp (disch := omega) only [J_add, J_sub, J_mul, J_lt, J_le, J_eq, xbr_true, xbr_false, xbr_pos, xbr_neg, Int.toNat_natCast, all_eq, ex_eq, t_0, q_0_0, q_0_1, q_0_2, q_0_3, q_0_4, q_0_5, q_0_6, q_0_7, q_0_8, q_0_9, i_0_10, p_0_10, i_0_11, p_0_11, i_0_12, p_0_12, t_1, q_1_0, t_3, q_3_0, q_3_1, i_3_2, p_3_2, i_3_3, p_3_3, t_80, q_80_0, t_88, q_88_0, t_90, q_90_0, t_92, q_92_0, q_92_1, q_92_2, i_92_3, p_92_3, i_92_4, p_92_4, t_96, q_96_0, i_96_1, p_96_1, i_96_2, p_96_2, i_96_3, p_96_3, t_100, q_100_0, i_100_1, p_100_1, i_100_2, p_100_2, i_100_3, p_100_3, t_104, q_104_1, q_104_2, q_104_3, q_104_4, q_104_5, q_104_6, q_104_8, q_104_9, q_104_11, q_104_12, q_104_18, q_104_21, q_104_22, q_104_23, q_104_24, q_104_26, q_104_27, q_104_28, q_104_30, q_104_31, i_104_0, p_104_0, i_104_7, p_104_7, i_104_10, p_104_10, i_104_13, p_104_13, i_104_14, p_104_14, i_104_15, p_104_15, i_104_16, p_104_16, i_104_17, p_104_17, i_104_19, p_104_19, i_104_20, p_104_20, i_104_25, p_104_25, i_104_29, p_104_29, a_2, w_2, a_81, w_81, a_89, w_89, a_91, w_91, a_93, w_93, a_94, w_94, a_95, w_95, a_105, w_105, a_106, w_106, a_107, w_107, a_108, w_108, a_109, w_109, a_110, w_110, a_111, w_111, a_112, w_112, a_113, w_113, a_114, w_114, a_115, w_115, a_116, w_116, a_117, w_117, a_118, w_118, a_119, w_119, a_120, w_120, a_121, w_121, a_122, w_122, a_123, w_123, a_124, w_124, J_long, m_in, if_pos (show 0 ≤ (j : Int) ∧ (j : Int) ≤ (n : Int) - 1 by omega), ← v1]
        · refine ⟨-1, D, G, fun K => ?_, fun K => ?_, inv2⟩
          · rw [cls, xbr_neg qn]
            unfold PX7_shelfAt
            by_cases q3 : i < 0
            · simp (disch := omega) only [J_add, J_sub, J_mul, J_lt, J_le, J_eq, xbr_true, xbr_false, xbr_pos, xbr_neg, Int.toNat_natCast, all_eq, ex_eq, t_0, q_0_0, q_0_1, q_0_2, q_0_3, q_0_4, q_0_5, q_0_6, q_0_7, q_0_8, q_0_9, i_0_10, p_0_10, i_0_11, p_0_11, i_0_12, p_0_12, t_1, q_1_0, t_3, q_3_0, q_3_1, i_3_2, p_3_2, i_3_3, p_3_3, t_80, q_80_0, t_88, q_88_0, t_90, q_90_0, t_92, q_92_0, q_92_1, q_92_2, i_92_3, p_92_3, i_92_4, p_92_4, t_96, q_96_0, i_96_1, p_96_1, i_96_2, p_96_2, i_96_3, p_96_3, t_100, q_100_0, i_100_1, p_100_1, i_100_2, p_100_2, i_100_3, p_100_3, t_104, q_104_1, q_104_2, q_104_3, q_104_4, q_104_5, q_104_6, q_104_8, q_104_9, q_104_11, q_104_12, q_104_18, q_104_21, q_104_22, q_104_23, q_104_24, q_104_26, q_104_27, q_104_28, q_104_30, q_104_31, i_104_0, p_104_0, i_104_7, p_104_7, i_104_10, p_104_10, i_104_13, p_104_13, i_104_14, p_104_14, i_104_15, p_104_15, i_104_16, p_104_16, i_104_17, p_104_17, i_104_19, p_104_19, i_104_20, p_104_20, i_104_25, p_104_25, i_104_29, p_104_29, a_2, w_2, a_81, w_81, a_89, w_89, a_91, w_91, a_93, w_93, a_94, w_94, a_95, w_95, a_105, w_105, a_106, w_106, a_107, w_107, a_108, w_108, a_109, w_109, a_110, w_110, a_111, w_111, a_112, w_112, a_113, w_113, a_114, w_114, a_115, w_115, a_116, w_116, a_117, w_117, a_118, w_118, a_119, w_119, a_120, w_120, a_121, w_121, a_122, w_122, a_123, w_123, a_124, w_124, d2, s_entry (o := 95) (N := 8) rfl]
              rw [if_neg (by omega)]
            · simp (disch := omega) only [J_add, J_sub, J_mul, J_lt, J_le, J_eq, xbr_true, xbr_false, xbr_pos, xbr_neg, Int.toNat_natCast, all_eq, ex_eq, t_0, q_0_0, q_0_1, q_0_2, q_0_3, q_0_4, q_0_5, q_0_6, q_0_7, q_0_8, q_0_9, i_0_10, p_0_10, i_0_11, p_0_11, i_0_12, p_0_12, t_1, q_1_0, t_3, q_3_0, q_3_1, i_3_2, p_3_2, i_3_3, p_3_3, t_80, q_80_0, t_88, q_88_0, t_90, q_90_0, t_92, q_92_0, q_92_1, q_92_2, i_92_3, p_92_3, i_92_4, p_92_4, t_96, q_96_0, i_96_1, p_96_1, i_96_2, p_96_2, i_96_3, p_96_3, t_100, q_100_0, i_100_1, p_100_1, i_100_2, p_100_2, i_100_3, p_100_3, t_104, q_104_1, q_104_2, q_104_3, q_104_4, q_104_5, q_104_6, q_104_8, q_104_9, q_104_11, q_104_12, q_104_18, q_104_21, q_104_22, q_104_23, q_104_24, q_104_26, q_104_27, q_104_28, q_104_30, q_104_31, i_104_0, p_104_0, i_104_7, p_104_7, i_104_10, p_104_10, i_104_13, p_104_13, i_104_14, p_104_14, i_104_15, p_104_15, i_104_16, p_104_16, i_104_17, p_104_17, i_104_19, p_104_19, i_104_20, p_104_20, i_104_25, p_104_25, i_104_29, p_104_29, a_2, w_2, a_81, w_81, a_89, w_89, a_91, w_91, a_93, w_93, a_94, w_94, a_95, w_95, a_105, w_105, a_106, w_106, a_107, w_107, a_108, w_108, a_109, w_109, a_110, w_110, a_111, w_111, a_112, w_112, a_113, w_113, a_114, w_114, a_115, w_115, a_116, w_116, a_117, w_117, a_118, w_118, a_119, w_119, a_120, w_120, a_121, w_121, a_122, w_122, a_123, w_123, a_124, w_124, d2]
          · rw [mls, xbr_neg qn]
            simp (disch := omega) only [J_add, J_sub, J_mul, J_lt, J_le, J_eq, xbr_true, xbr_false, xbr_pos, xbr_neg, Int.toNat_natCast, all_eq, ex_eq, t_0, q_0_0, q_0_1, q_0_2, q_0_3, q_0_4, q_0_5, q_0_6, q_0_7, q_0_8, q_0_9, i_0_10, p_0_10, i_0_11, p_0_11, i_0_12, p_0_12, t_1, q_1_0, t_3, q_3_0, q_3_1, i_3_2, p_3_2, i_3_3, p_3_3, t_80, q_80_0, t_88, q_88_0, t_90, q_90_0, t_92, q_92_0, q_92_1, q_92_2, i_92_3, p_92_3, i_92_4, p_92_4, t_96, q_96_0, i_96_1, p_96_1, i_96_2, p_96_2, i_96_3, p_96_3, t_100, q_100_0, i_100_1, p_100_1, i_100_2, p_100_2, i_100_3, p_100_3, t_104, q_104_1, q_104_2, q_104_3, q_104_4, q_104_5, q_104_6, q_104_8, q_104_9, q_104_11, q_104_12, q_104_18, q_104_21, q_104_22, q_104_23, q_104_24, q_104_26, q_104_27, q_104_28, q_104_30, q_104_31, i_104_0, p_104_0, i_104_7, p_104_7, i_104_10, p_104_10, i_104_13, p_104_13, i_104_14, p_104_14, i_104_15, p_104_15, i_104_16, p_104_16, i_104_17, p_104_17, i_104_19, p_104_19, i_104_20, p_104_20, i_104_25, p_104_25, i_104_29, p_104_29, a_2, w_2, a_81, w_81, a_89, w_89, a_91, w_91, a_93, w_93, a_94, w_94, a_95, w_95, a_105, w_105, a_106, w_106, a_107, w_107, a_108, w_108, a_109, w_109, a_110, w_110, a_111, w_111, a_112, w_112, a_113, w_113, a_114, w_114, a_115, w_115, a_116, w_116, a_117, w_117, a_118, w_118, a_119, w_119, a_120, w_120, a_121, w_121, a_122, w_122, a_123, w_123, a_124, w_124, J_long, m_in, if_neg (show ¬ (0 ≤ i ∧ i ≤ (n : Int) - 1) by omega)]
  · refine ⟨-1001, C, C, fun K => ?_, fun K => ?_, h⟩
    · unfold PX10_search
      simp (disch := omega) only [J_add, J_sub, J_mul, J_lt, J_le, J_eq, xbr_true, xbr_false, xbr_pos, xbr_neg, Int.toNat_natCast, all_eq, ex_eq, t_0, q_0_0, q_0_1, q_0_2, q_0_3, q_0_4, q_0_5, q_0_6, q_0_7, q_0_8, q_0_9, i_0_10, p_0_10, i_0_11, p_0_11, i_0_12, p_0_12, t_1, q_1_0, t_3, q_3_0, q_3_1, i_3_2, p_3_2, i_3_3, p_3_3, t_80, q_80_0, t_88, q_88_0, t_90, q_90_0, t_92, q_92_0, q_92_1, q_92_2, i_92_3, p_92_3, i_92_4, p_92_4, t_96, q_96_0, i_96_1, p_96_1, i_96_2, p_96_2, i_96_3, p_96_3, t_100, q_100_0, i_100_1, p_100_1, i_100_2, p_100_2, i_100_3, p_100_3, t_104, q_104_1, q_104_2, q_104_3, q_104_4, q_104_5, q_104_6, q_104_8, q_104_9, q_104_11, q_104_12, q_104_18, q_104_21, q_104_22, q_104_23, q_104_24, q_104_26, q_104_27, q_104_28, q_104_30, q_104_31, i_104_0, p_104_0, i_104_7, p_104_7, i_104_10, p_104_10, i_104_13, p_104_13, i_104_14, p_104_14, i_104_15, p_104_15, i_104_16, p_104_16, i_104_17, p_104_17, i_104_19, p_104_19, i_104_20, p_104_20, i_104_25, p_104_25, i_104_29, p_104_29, a_2, w_2, a_81, w_81, a_89, w_89, a_91, w_91, a_93, w_93, a_94, w_94, a_95, w_95, a_105, w_105, a_106, w_106, a_107, w_107, a_108, w_108, a_109, w_109, a_110, w_110, a_111, w_111, a_112, w_112, a_113, w_113, a_114, w_114, a_115, w_115, a_116, w_116, a_117, w_117, a_118, w_118, a_119, w_119, a_120, w_120, a_121, w_121, a_122, w_122, a_123, w_123, a_124, w_124, s_has]
    · unfold PX11_search
      simp (disch := omega) only [J_add, J_sub, J_mul, J_lt, J_le, J_eq, xbr_true, xbr_false, xbr_pos, xbr_neg, Int.toNat_natCast, all_eq, ex_eq, t_0, q_0_0, q_0_1, q_0_2, q_0_3, q_0_4, q_0_5, q_0_6, q_0_7, q_0_8, q_0_9, i_0_10, p_0_10, i_0_11, p_0_11, i_0_12, p_0_12, t_1, q_1_0, t_3, q_3_0, q_3_1, i_3_2, p_3_2, i_3_3, p_3_3, t_80, q_80_0, t_88, q_88_0, t_90, q_90_0, t_92, q_92_0, q_92_1, q_92_2, i_92_3, p_92_3, i_92_4, p_92_4, t_96, q_96_0, i_96_1, p_96_1, i_96_2, p_96_2, i_96_3, p_96_3, t_100, q_100_0, i_100_1, p_100_1, i_100_2, p_100_2, i_100_3, p_100_3, t_104, q_104_1, q_104_2, q_104_3, q_104_4, q_104_5, q_104_6, q_104_8, q_104_9, q_104_11, q_104_12, q_104_18, q_104_21, q_104_22, q_104_23, q_104_24, q_104_26, q_104_27, q_104_28, q_104_30, q_104_31, i_104_0, p_104_0, i_104_7, p_104_7, i_104_10, p_104_10, i_104_13, p_104_13, i_104_14, p_104_14, i_104_15, p_104_15, i_104_16, p_104_16, i_104_17, p_104_17, i_104_19, p_104_19, i_104_20, p_104_20, i_104_25, p_104_25, i_104_29, p_104_29, a_2, w_2, a_81, w_81, a_89, w_89, a_91, w_91, a_93, w_93, a_94, w_94, a_95, w_95, a_105, w_105, a_106, w_106, a_107, w_107, a_108, w_108, a_109, w_109, a_110, w_110, a_111, w_111, a_112, w_112, a_113, w_113, a_114, w_114, a_115, w_115, a_116, w_116, a_117, w_117, a_118, w_118, a_119, w_119, a_120, w_120, a_121, w_121, a_122, w_122, a_123, w_123, a_124, w_124, m_isBook]
end SR2
