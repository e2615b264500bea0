/-! tidy, book -/
theorem sumN_rev (G : Nat → Nat) (n : Nat) : sumN (fun q => G (n - 1 - q)) n = sumN G n := by
  have key : ∀ m, m ≤ n → sumN (fun q => G (n - 1 - q)) m + sumN G (n - m) = sumN G n := by
    intro m
    induction m with
    | zero => intro _; simp [sumN]
    | succ m ih =>
      intro hm
      have h := ih (by omega)
      show sumN (fun q => G (n - 1 - q)) m + G (n - 1 - m) + sumN G (n - (m + 1)) = _
      have e : sumN G (n - m) = sumN G (n - (m + 1)) + G (n - 1 - m) := by
        have : n - m = n - (m + 1) + 1 := by omega
        rw [this]
        show sumN G (n - (m + 1)) + G (n - (m + 1)) = _
        congr 2
        omega
      omega
  have := key n (Nat.le_refl _)
  simpa [sumN] using this
theorem cnt_congr {n : Nat} {f g : Nat → Bool} (h : ∀ i, i < n → f i = g i) : cnt n f = cnt n g := by
  induction n with
  | zero => rfl
  | succ n ih => show cnt n f + _ = cnt n g + _; rw [ih (fun i hi => h i (by omega)), h n (by omega)]
theorem cnt_none {n : Nat} {f : Nat → Bool} (h : ∀ i, i < n → f i = false) : cnt n f = 0 := by
  induction n with
  | zero => rfl
  | succ n ih => show cnt n f + _ = 0; rw [ih (fun i hi => h i (by omega)), h n (by omega)]; rfl
/-- which places stand wrong after place i -/
def prW (C : Nat → Nat → Int) (A : Rw) (i j : Nat) : Bool := decide (i < j) && !aheadC C (A.2.1 i) (A.2.1 j) 0
def fwv (w : Nat → Bool) (l : Nat → Int) : Nat → Nat → Int
  | 0, _ => -1
  | n + 1, i => if w i then l i else fwv w l n (i + 1)
section TIDY
variable {z : Nat} {g : Mem} {C C' : Nat → Nat → Int} {nb : Nat} {A A' : Rw}
theorem Inv.ah (h : Inv C nb A) {i j : Nat} (hi : i < A.1) (hj : j < A.1) (K : Int32 → Prop) : PX2_isAhead (ad z 3) (J (A.2.1 i : Nat)) (J (A.2.1 j : Nat)) (J 0) (lay z g C) K = K (J (if aheadC C (A.2.1 i) (A.2.1 j) 0 then 1 else 0)) := by
  obtain ⟨k1, k2, k3⟩ := h.2.2.2.2.2.2.1
  have hn := h.smm.1
  have a1 := k3.1 i hi
  have a2 := k3.1 j hj
  exact s_isAhead h.2.1.2.2.2.2.1 (by omega) (by omega) (by omega) (by omega)
theorem Inv.mah (h : Inv C nb A) {i j : Nat} (hi : i < A.1) (hj : j < A.1) (K : Int32 → Prop) : PX11_isAhead (ad z 104) (J (A.2.1 i : Nat)) (J (A.2.1 j : Nat)) (J 0) (lay z g C) K = K (J (if aheadC C (A.2.1 i) (A.2.1 j) 0 then 1 else 0)) := by
  obtain ⟨k1, k2, k3⟩ := h.2.2.2.2.2.2.1
  have hn := h.smm.1
  have a1 := k3.1 i hi
  have a2 := k3.1 j hj
  exact m_isAhead (h.2.1.2.2.2.2.2.1 _ a1) (h.2.1.2.2.2.2.2.1 _ a2) (by omega) (by omega) (by omega) (by omega)
theorem sumN_pr (C : Nat → Nat → Int) (A : Rw) (n : Nat) : sumN (fun i => cnt A.1 (prW C A i)) n ≤ n * A.1 := by
  induction n with
  | zero => simp [sumN]
  | succ n ih =>
    have := cnt_le A.1 (prW C A n)
    show sumN _ n + cnt A.1 (prW C A n) ≤ (n + 1) * A.1
    rw [Nat.succ_mul]; omega
theorem op_tidy (h : Inv C nb A) {v : Int} (hv : -2147483648 ≤ v ∧ v < 2147483648) : ∃ x : Int, (∀ K, PX10_tidy (ad z 0) (J v) (lay z g C) K = K (J x)) ∧ (∀ K, PX11_tidy (ad z 104) (J v) (lay z g C) K = K (J x)) := by
  obtain ⟨k1, k2, k3⟩ := h.2.2.2.2.2.2.1
  have hn := h.smm.1
  have hl24 := k2.2.1
  have hl := k1.1
  have bk := fun (i : Nat) (hi : i < A.1) => k1.bk hi
  have lnb := fun (i : Nat) (hi : i < A.1) => k3.1 i hi
  have ah := fun (i j : Nat) (hi : i < A.1) (hj : j < A.1) K => h.ah (z := z) (g := g) hi hj K
  have mah := fun (i j : Nat) (hi : i < A.1) (hj : j < A.1) K => h.mah (z := z) (g := g) hi hj K
  have sz : ∀ K : Int32 → Prop, PX6_size (ad z 82) (lay z g C) K = K (J A.1) := fun K => by rw [s_size r82, hl]
  have spb := fun n => sumN_pr C A n
  have mulb : ∀ n, n ≤ A.1 → n * A.1 ≤ 24 * 24 := fun n hn => Nat.mul_le_mul (by omega) hl24
  -- the class's pairs
  have p20 : ∀ (K : Int32 → Prop) (kc5 : Int32 × Int32 → Prop) (i base : Nat), i < A.1 → base ≤ 1000 → lp (BX9_pairs_20 K kc5 (lay z g C) (ad z 82) (ad z 3) (J (i : Int))) (J (base : Int), J ((i + 1 : Nat) : Int)) = kc5 (J ((base + cnt A.1 (prW C A i) : Nat) : Int), J ((i + 1 : Nat) : Int)) := by
    intro K kc5 i base hi hb
    have e0 : cnt (i + 1) (prW C A i) = 0 := cnt_none fun j hj => by simp [prW]; omega
    have h00 : (J (base : Int), J ((i + 1 : Nat) : Int)) = ((fun j : Nat => (J ((base + cnt j (prW C A i) : Nat) : Int), J (j : Int))) (i + 1)) := by simp [e0]
    rw [h00]
    refine lp_for (fun j : Nat => (J ((base + cnt j (prW C A i) : Nat) : Int), J (j : Int))) (i + 1) A.1 _ (by omega) ?_ ?_
    · intro j hj0 hj kc
      have c1 := cnt_le j (prW C A i)
      unfold BX9_pairs_20 CX9_pairs_20
      simp (disch := omega) only [J_add, J_sub, J_mul, J_lt, J_le, J_eq, xbr_true, xbr_false, xbr_pos, xbr_neg, Int.toNat_natCast, all_eq, ex_eq, sz, s_bookAt r82 k1.2.2.2.2, bk i hi, bk j hj, ah i j hi hj]
      by_cases c : aheadC C (A.2.1 i) (A.2.1 j) 0 = true
      · simp only [if_pos c]
        simp (disch := omega) only [J_add, J_sub, J_mul, J_lt, J_le, J_eq, xbr_true, xbr_false, xbr_pos, xbr_neg, Int.toNat_natCast, all_eq, ex_eq]
        simp [cnt, prW, c]
      · simp only [if_neg c]
        simp (disch := omega) only [J_add, J_sub, J_mul, J_lt, J_le, J_eq, xbr_true, xbr_false, xbr_pos, xbr_neg, Int.toNat_natCast, all_eq, ex_eq]
        simp [cnt, prW, c, show i < j by omega, Int.add_assoc]
    · intro kc
      unfold BX9_pairs_20 CX9_pairs_20
      simp (disch := omega) only [J_add, J_sub, J_mul, J_lt, J_le, J_eq, xbr_true, xbr_false, xbr_pos, xbr_neg, Int.toNat_natCast, all_eq, ex_eq, sz]
      rfl
  have pairs : ∀ K : Int32 → Prop, PX9_pairs (ad z 88) (ad z 82) (ad z 3) (lay z g C) K = K (J (sumN (fun i => cnt A.1 (prW C A i)) A.1 : Nat)) := by
    intro K
    unfold PX9_pairs
    simp (disch := omega) only [J_add, J_sub, J_mul, J_lt, J_le, J_eq, xbr_true, xbr_false, xbr_pos, xbr_neg, Int.toNat_natCast, all_eq, ex_eq, t_0, q_0_0, q_0_1, q_0_2, q_0_3, q_0_4, q_0_5, q_0_6, q_0_7, q_0_8, q_0_9, i_0_10, p_0_10, i_0_11, p_0_11, i_0_12, p_0_12, t_1, q_1_0, t_3, q_3_0, q_3_1, i_3_2, p_3_2, i_3_3, p_3_3, t_80, q_80_0, t_88, q_88_0, t_90, q_90_0, t_92, q_92_0, q_92_1, q_92_2, i_92_3, p_92_3, i_92_4, p_92_4, t_96, q_96_0, i_96_1, p_96_1, i_96_2, p_96_2, i_96_3, p_96_3, t_100, q_100_0, i_100_1, p_100_1, i_100_2, p_100_2, i_100_3, p_100_3, t_104, q_104_1, q_104_2, q_104_3, q_104_4, q_104_5, q_104_6, q_104_8, q_104_9, q_104_11, q_104_12, q_104_18, q_104_21, q_104_22, q_104_23, q_104_24, q_104_26, q_104_27, q_104_28, q_104_30, q_104_31, i_104_0, p_104_0, i_104_7, p_104_7, i_104_10, p_104_10, i_104_13, p_104_13, i_104_14, p_104_14, i_104_15, p_104_15, i_104_16, p_104_16, i_104_17, p_104_17, i_104_19, p_104_19, i_104_20, p_104_20, i_104_25, p_104_25, i_104_29, p_104_29, a_2, w_2, a_81, w_81, a_89, w_89, a_91, w_91, a_93, w_93, a_94, w_94, a_95, w_95, a_105, w_105, a_106, w_106, a_107, w_107, a_108, w_108, a_109, w_109, a_110, w_110, a_111, w_111, a_112, w_112, a_113, w_113, a_114, w_114, a_115, w_115, a_116, w_116, a_117, w_117, a_118, w_118, a_119, w_119, a_120, w_120, a_121, w_121, a_122, w_122, a_123, w_123, a_124, w_124]
    refine lp_for (fun i : Nat => (J (sumN (fun i => cnt A.1 (prW C A i)) i : Nat), J (i : Int))) 0 A.1 _ (by omega) ?_ ?_
    · intro i _ hi kc
      have b1 := spb i
      have b2 := mulb i (by omega)
      have ec : ((i : Int) + 1) = ((i + 1 : Nat) : Int) := by omega
      unfold BX9_pairs_5 CX9_pairs_5
      simp (disch := omega) only [J_add, J_sub, J_mul, J_lt, J_le, J_eq, xbr_true, xbr_false, xbr_pos, xbr_neg, Int.toNat_natCast, all_eq, ex_eq, sz]
      rw [ec, p20 K kc i _ hi (by omega)]
      rfl
    · intro kc
      unfold BX9_pairs_5 CX9_pairs_5
      simp (disch := omega) only [J_add, J_sub, J_mul, J_lt, J_le, J_eq, xbr_true, xbr_false, xbr_pos, xbr_neg, Int.toNat_natCast, all_eq, ex_eq, sz]
  have fw : ∀ K : Int32 → Prop, PX9_firstWrong (ad z 88) (ad z 82) (ad z 3) (lay z g C) K = K (J (fwv (fun i => !aheadC C (A.2.1 i) (A.2.1 (i + 1)) 0) (fun i => A.2.1 i) (A.1 - 1) 0)) := by
    intro K
    unfold PX9_firstWrong
    simp (disch := omega) only [J_add, J_sub, J_mul, J_lt, J_le, J_eq, xbr_true, xbr_false, xbr_pos, xbr_neg, Int.toNat_natCast, all_eq, ex_eq, t_0, q_0_0, q_0_1, q_0_2, q_0_3, q_0_4, q_0_5, q_0_6, q_0_7, q_0_8, q_0_9, i_0_10, p_0_10, i_0_11, p_0_11, i_0_12, p_0_12, t_1, q_1_0, t_3, q_3_0, q_3_1, i_3_2, p_3_2, i_3_3, p_3_3, t_80, q_80_0, t_88, q_88_0, t_90, q_90_0, t_92, q_92_0, q_92_1, q_92_2, i_92_3, p_92_3, i_92_4, p_92_4, t_96, q_96_0, i_96_1, p_96_1, i_96_2, p_96_2, i_96_3, p_96_3, t_100, q_100_0, i_100_1, p_100_1, i_100_2, p_100_2, i_100_3, p_100_3, t_104, q_104_1, q_104_2, q_104_3, q_104_4, q_104_5, q_104_6, q_104_8, q_104_9, q_104_11, q_104_12, q_104_18, q_104_21, q_104_22, q_104_23, q_104_24, q_104_26, q_104_27, q_104_28, q_104_30, q_104_31, i_104_0, p_104_0, i_104_7, p_104_7, i_104_10, p_104_10, i_104_13, p_104_13, i_104_14, p_104_14, i_104_15, p_104_15, i_104_16, p_104_16, i_104_17, p_104_17, i_104_19, p_104_19, i_104_20, p_104_20, i_104_25, p_104_25, i_104_29, p_104_29, a_2, w_2, a_81, w_81, a_89, w_89, a_91, w_91, a_93, w_93, a_94, w_94, a_95, w_95, a_105, w_105, a_106, w_106, a_107, w_107, a_108, w_108, a_109, w_109, a_110, w_110, a_111, w_111, a_112, w_112, a_113, w_113, a_114, w_114, a_115, w_115, a_116, w_116, a_117, w_117, a_118, w_118, a_119, w_119, a_120, w_120, a_121, w_121, a_122, w_122, a_123, w_123, a_124, w_124]
    have key : ∀ n i, i + n = A.1 - 1 → lp (BX9_firstWrong_2 K (lay z g C) (ad z 82) (ad z 3)) (J (i : Nat)) = K (J (fwv (fun i => !aheadC C (A.2.1 i) (A.2.1 (i + 1)) 0) (fun i => A.2.1 i) n i)) := by
      intro n
      induction n with
      | zero =>
        intro i hi
        refine lp_for (fun _ : Nat => J (i : Int)) 0 0 _ (by omega) (fun j _ hj => by omega) ?_
        intro kc
        unfold BX9_firstWrong_2 CX9_firstWrong_2
        simp (disch := omega) only [J_add, J_sub, J_mul, J_lt, J_le, J_eq, xbr_true, xbr_false, xbr_pos, xbr_neg, Int.toNat_natCast, all_eq, ex_eq, sz]
        rfl
      | succ n ih =>
        intro i hi
        have ec : ((i : Int) + 1) = ((i + 1 : Nat) : Int) := by omega
        by_cases c : aheadC C (A.2.1 i) (A.2.1 (i + 1)) 0 = true
        · have e : fwv (fun i => !aheadC C (A.2.1 i) (A.2.1 (i + 1)) 0) (fun i => A.2.1 i) (n + 1) i = fwv (fun i => !aheadC C (A.2.1 i) (A.2.1 (i + 1)) 0) (fun i => A.2.1 i) n (i + 1) := by
            show (if _ then _ else _) = _
            rw [if_neg (by simp [c])]
          rw [e, ← ih (i + 1) (by omega)]
          refine lp_step (fun kc => ?_)
          unfold BX9_firstWrong_2 CX9_firstWrong_2
          simp (disch := omega) only [J_add, J_sub, J_mul, J_lt, J_le, J_eq, xbr_true, xbr_false, xbr_pos, xbr_neg, Int.toNat_natCast, all_eq, ex_eq, sz, ec, s_bookAt r82 k1.2.2.2.2, bk i (by omega), bk (i + 1) (by omega), ah i (i + 1) (by omega) (by omega), if_pos c]
        · have e : fwv (fun i => !aheadC C (A.2.1 i) (A.2.1 (i + 1)) 0) (fun i => A.2.1 i) (n + 1) i = A.2.1 i := by
            show (if _ then _ else _) = _
            rw [if_pos (by simp [c])]
          rw [e]
          refine lp_for (fun _ : Nat => J (i : Int)) 0 0 _ (by omega) (fun j _ hj => by omega) ?_
          intro kc
          unfold BX9_firstWrong_2 CX9_firstWrong_2
          simp (disch := omega) only [J_add, J_sub, J_mul, J_lt, J_le, J_eq, xbr_true, xbr_false, xbr_pos, xbr_neg, Int.toNat_natCast, all_eq, ex_eq, sz, ec, s_bookAt r82 k1.2.2.2.2, bk i (by omega), bk (i + 1) (by omega), ah i (i + 1) (by omega) (by omega), if_neg c]
    exact key (A.1 - 1) 0 (by omega)
  -- the reference
  have m73 : ∀ (K : Int32 → Prop) (kc26 : Int32 × Int32 × Int32 → Prop) (u1 u3 : Int32) (i base : Nat), i < A.1 → base ≤ 1000 → lp (BX11_tidy_73 K kc26 (lay z g C) (ad z 104) u1 u3 (J (i : Int))) (J (base : Int), J ((i + 1 : Nat) : Int)) = kc26 (J ((base + cnt A.1 (prW C A i) : Nat) : Int), u3, J ((i : Int) + -1)) := by
    intro K kc26 u1 u3 i base hi hb
    have e0 : cnt (i + 1) (prW C A i) = 0 := cnt_none fun j hj => by simp [prW]; omega
    have h00 : (J (base : Int), J ((i + 1 : Nat) : Int)) = ((fun j : Nat => (J ((base + cnt j (prW C A i) : Nat) : Int), J (j : Int))) (i + 1)) := by simp [e0]
    rw [h00]
    refine lp_for (fun j : Nat => (J ((base + cnt j (prW C A i) : Nat) : Int), J (j : Int))) (i + 1) A.1 _ (by omega) ?_ ?_
    · intro j hj0 hj kc
      have c1 := cnt_le j (prW C A i)
      unfold BX11_tidy_73 CX11_tidy_73
      simp (disch := omega) only [J_add, J_sub, J_mul, J_lt, J_le, J_eq, xbr_true, xbr_false, xbr_pos, xbr_neg, Int.toNat_natCast, all_eq, ex_eq, t_0, q_0_0, q_0_1, q_0_2, q_0_3, q_0_4, q_0_5, q_0_6, q_0_7, q_0_8, q_0_9, i_0_10, p_0_10, i_0_11, p_0_11, i_0_12, p_0_12, t_1, q_1_0, t_3, q_3_0, q_3_1, i_3_2, p_3_2, i_3_3, p_3_3, t_80, q_80_0, t_88, q_88_0, t_90, q_90_0, t_92, q_92_0, q_92_1, q_92_2, i_92_3, p_92_3, i_92_4, p_92_4, t_96, q_96_0, i_96_1, p_96_1, i_96_2, p_96_2, i_96_3, p_96_3, t_100, q_100_0, i_100_1, p_100_1, i_100_2, p_100_2, i_100_3, p_100_3, t_104, q_104_1, q_104_2, q_104_3, q_104_4, q_104_5, q_104_6, q_104_8, q_104_9, q_104_11, q_104_12, q_104_18, q_104_21, q_104_22, q_104_23, q_104_24, q_104_26, q_104_27, q_104_28, q_104_30, q_104_31, i_104_0, p_104_0, i_104_7, p_104_7, i_104_10, p_104_10, i_104_13, p_104_13, i_104_14, p_104_14, i_104_15, p_104_15, i_104_16, p_104_16, i_104_17, p_104_17, i_104_19, p_104_19, i_104_20, p_104_20, i_104_25, p_104_25, i_104_29, p_104_29, a_2, w_2, a_81, w_81, a_89, w_89, a_91, w_91, a_93, w_93, a_94, w_94, a_95, w_95, a_105, w_105, a_106, w_106, a_107, w_107, a_108, w_108, a_109, w_109, a_110, w_110, a_111, w_111, a_112, w_112, a_113, w_113, a_114, w_114, a_115, w_115, a_116, w_116, a_117, w_117, a_118, w_118, a_119, w_119, a_120, w_120, a_121, w_121, a_122, w_122, a_123, w_123, a_124, w_124, k2.1, k2.2.2.1 i hi, k2.2.2.1 j hj, mah i j hi hj]
      by_cases c : aheadC C (A.2.1 i) (A.2.1 j) 0 = true
      · simp only [if_pos c]
        simp (disch := omega) only [J_add, J_sub, J_mul, J_lt, J_le, J_eq, xbr_true, xbr_false, xbr_pos, xbr_neg, Int.toNat_natCast, all_eq, ex_eq]
        simp [cnt, prW, c]
      · simp only [if_neg c]
        simp (disch := omega) only [J_add, J_sub, J_mul, J_lt, J_le, J_eq, xbr_true, xbr_false, xbr_pos, xbr_neg, Int.toNat_natCast, all_eq, ex_eq]
        simp [cnt, prW, c, show i < j by omega, Int.add_assoc]
    · intro kc
      unfold BX11_tidy_73 CX11_tidy_73
      simp (disch := omega) only [J_add, J_sub, J_mul, J_lt, J_le, J_eq, xbr_true, xbr_false, xbr_pos, xbr_neg, Int.toNat_natCast, all_eq, ex_eq, t_0, q_0_0, q_0_1, q_0_2, q_0_3, q_0_4, q_0_5, q_0_6, q_0_7, q_0_8, q_0_9, i_0_10, p_0_10, i_0_11, p_0_11, i_0_12, p_0_12, t_1, q_1_0, t_3, q_3_0, q_3_1, i_3_2, p_3_2, i_3_3, p_3_3, t_80, q_80_0, t_88, q_88_0, t_90, q_90_0, t_92, q_92_0, q_92_1, q_92_2, i_92_3, p_92_3, i_92_4, p_92_4, t_96, q_96_0, i_96_1, p_96_1, i_96_2, p_96_2, i_96_3, p_96_3, t_100, q_100_0, i_100_1, p_100_1, i_100_2, p_100_2, i_100_3, p_100_3, t_104, q_104_1, q_104_2, q_104_3, q_104_4, q_104_5, q_104_6, q_104_8, q_104_9, q_104_11, q_104_12, q_104_18, q_104_21, q_104_22, q_104_23, q_104_24, q_104_26, q_104_27, q_104_28, q_104_30, q_104_31, i_104_0, p_104_0, i_104_7, p_104_7, i_104_10, p_104_10, i_104_13, p_104_13, i_104_14, p_104_14, i_104_15, p_104_15, i_104_16, p_104_16, i_104_17, p_104_17, i_104_19, p_104_19, i_104_20, p_104_20, i_104_25, p_104_25, i_104_29, p_104_29, a_2, w_2, a_81, w_81, a_89, w_89, a_91, w_91, a_93, w_93, a_94, w_94, a_95, w_95, a_105, w_105, a_106, w_106, a_107, w_107, a_108, w_108, a_109, w_109, a_110, w_110, a_111, w_111, a_112, w_112, a_113, w_113, a_114, w_114, a_115, w_115, a_116, w_116, a_117, w_117, a_118, w_118, a_119, w_119, a_120, w_120, a_121, w_121, a_122, w_122, a_123, w_123, a_124, w_124, k2.1]
  have m26 : ∀ (K : Int32 → Prop) (v : Int), (v = 0 ∨ v = 1) → lp (BX11_tidy_26 K (lay z g C) (ad z 104) (J v)) (J 0, J (-1), J ((A.1 : Int) - 2)) = K (J (if v = 0 then (sumN (fun i => cnt A.1 (prW C A i)) A.1 : Nat) else fwv (fun i => !aheadC C (A.2.1 i) (A.2.1 (i + 1)) 0) (fun i => A.2.1 i) (A.1 - 1) 0)) := by
    intro K v hv
    have h00 : (J 0, J (-1), J ((A.1 : Int) - 2)) = ((fun t : Nat => (J (sumN (fun q => cnt A.1 (prW C A (A.1 - 1 - 1 - q))) t : Nat), J (fwv (fun i => !aheadC C (A.2.1 i) (A.2.1 (i + 1)) 0) (fun i => A.2.1 i) t (A.1 - 1 - t)), J ((A.1 : Int) - 2 - (t : Int)))) 0) := by simp [sumN, fwv]
    rw [h00]
    have sb : ∀ t, t ≤ A.1 → sumN (fun q => cnt A.1 (prW C A (A.1 - 1 - 1 - q))) t ≤ 24 * t := by
      intro t
      induction t with
      | zero => intro _; simp [sumN]
      | succ t ih =>
        intro ht
        have := ih (by omega)
        have := cnt_le A.1 (prW C A (A.1 - 1 - 1 - t))
        show sumN _ t + cnt A.1 (prW C A (A.1 - 1 - 1 - t)) ≤ 24 * (t + 1)
        omega
    refine lp_for (fun t : Nat => (J (sumN (fun q => cnt A.1 (prW C A (A.1 - 1 - 1 - q))) t : Nat), J (fwv (fun i => !aheadC C (A.2.1 i) (A.2.1 (i + 1)) 0) (fun i => A.2.1 i) t (A.1 - 1 - t)), J ((A.1 : Int) - 2 - (t : Int)))) 0 (A.1 - 1) _ (by omega) ?_ ?_
    · intro t _ ht kc
      obtain ⟨i, hi⟩ : ∃ i : Nat, i = A.1 - 1 - 1 - t := ⟨_, rfl⟩
      have ei : (A.1 : Int) - 2 - (t : Int) = (i : Int) := by omega
      have ec : ((i : Int) + 1) = ((i + 1 : Nat) : Int) := by omega
      have b1 := sb t (by omega)
      have j66 : ∀ u3 : Int32, JX11_tidy_66 K kc (lay z g C) (ad z 104) (J v) (J (sumN (fun q => cnt A.1 (prW C A (A.1 - 1 - 1 - q))) t : Nat)) (J (i : Int)) u3 = kc (J (sumN (fun q => cnt A.1 (prW C A (A.1 - 1 - 1 - q))) (t + 1) : Nat), u3, J ((A.1 : Int) - 2 - ((t + 1 : Nat) : Int))) := by
        intro u3
        unfold JX11_tidy_66
        simp (disch := omega) only [J_add, J_sub, J_mul, J_lt, J_le, J_eq, xbr_true, xbr_false, xbr_pos, xbr_neg, Int.toNat_natCast, all_eq, ex_eq]
        rw [ec, m73 K kc _ u3 i _ (by omega) (by omega)]
        have e1 : sumN (fun q => cnt A.1 (prW C A (A.1 - 1 - 1 - q))) (t + 1) = sumN (fun q => cnt A.1 (prW C A (A.1 - 1 - 1 - q))) t + cnt A.1 (prW C A i) := by rw [hi]; rfl
        rw [e1, show (i : Int) + -1 = (A.1 : Int) - 2 - ((t + 1 : Nat) : Int) by omega]
      unfold BX11_tidy_26 CX11_tidy_26
      simp only [ei]
      simp (disch := omega) only [J_add, J_sub, J_mul, J_lt, J_le, J_eq, xbr_true, xbr_false, xbr_pos, xbr_neg, Int.toNat_natCast, all_eq, ex_eq, t_0, q_0_0, q_0_1, q_0_2, q_0_3, q_0_4, q_0_5, q_0_6, q_0_7, q_0_8, q_0_9, i_0_10, p_0_10, i_0_11, p_0_11, i_0_12, p_0_12, t_1, q_1_0, t_3, q_3_0, q_3_1, i_3_2, p_3_2, i_3_3, p_3_3, t_80, q_80_0, t_88, q_88_0, t_90, q_90_0, t_92, q_92_0, q_92_1, q_92_2, i_92_3, p_92_3, i_92_4, p_92_4, t_96, q_96_0, i_96_1, p_96_1, i_96_2, p_96_2, i_96_3, p_96_3, t_100, q_100_0, i_100_1, p_100_1, i_100_2, p_100_2, i_100_3, p_100_3, t_104, q_104_1, q_104_2, q_104_3, q_104_4, q_104_5, q_104_6, q_104_8, q_104_9, q_104_11, q_104_12, q_104_18, q_104_21, q_104_22, q_104_23, q_104_24, q_104_26, q_104_27, q_104_28, q_104_30, q_104_31, i_104_0, p_104_0, i_104_7, p_104_7, i_104_10, p_104_10, i_104_13, p_104_13, i_104_14, p_104_14, i_104_15, p_104_15, i_104_16, p_104_16, i_104_17, p_104_17, i_104_19, p_104_19, i_104_20, p_104_20, i_104_25, p_104_25, i_104_29, p_104_29, a_2, w_2, a_81, w_81, a_89, w_89, a_91, w_91, a_93, w_93, a_94, w_94, a_95, w_95, a_105, w_105, a_106, w_106, a_107, w_107, a_108, w_108, a_109, w_109, a_110, w_110, a_111, w_111, a_112, w_112, a_113, w_113, a_114, w_114, a_115, w_115, a_116, w_116, a_117, w_117, a_118, w_118, a_119, w_119, a_120, w_120, a_121, w_121, a_122, w_122, a_123, w_123, a_124, w_124, ec, k2.2.2.1 i (by omega), k2.2.2.1 (i + 1) (by omega), mah i (i + 1) (by omega) (by omega)]
      have e2 : A.1 - 1 - (t + 1) = i := by omega
      have e3 : A.1 - 1 - t = i + 1 := by omega
      by_cases c : aheadC C (A.2.1 i) (A.2.1 (i + 1)) 0 = true
      · simp only [if_pos c]
        simp (disch := omega) only [J_add, J_sub, J_mul, J_lt, J_le, J_eq, xbr_true, xbr_false, xbr_pos, xbr_neg, Int.toNat_natCast, all_eq, ex_eq, j66]
        have e4 : fwv (fun i => !aheadC C (A.2.1 i) (A.2.1 (i + 1)) 0) (fun i => A.2.1 i) (t + 1) (A.1 - 1 - (t + 1)) = fwv (fun i => !aheadC C (A.2.1 i) (A.2.1 (i + 1)) 0) (fun i => A.2.1 i) t (A.1 - 1 - t) := by
          rw [e2, e3]
          show (if _ then _ else _) = _
          rw [if_neg (by simp [c])]
        rw [e4]
      · simp only [if_neg c]
        simp (disch := omega) only [J_add, J_sub, J_mul, J_lt, J_le, J_eq, xbr_true, xbr_false, xbr_pos, xbr_neg, Int.toNat_natCast, all_eq, ex_eq, j66]
        have e4 : fwv (fun i => !aheadC C (A.2.1 i) (A.2.1 (i + 1)) 0) (fun i => A.2.1 i) (t + 1) (A.1 - 1 - (t + 1)) = A.2.1 i := by
          rw [e2]
          show (if _ then _ else _) = _
          rw [if_pos (by simp [c])]
        rw [e4]
    · intro kc
      have et : sumN (fun q => cnt A.1 (prW C A (A.1 - 1 - 1 - q))) (A.1 - 1) = sumN (fun i => cnt A.1 (prW C A i)) A.1 := by
        rw [sumN_rev (fun i => cnt A.1 (prW C A i)) (A.1 - 1)]
        rcases Nat.eq_zero_or_pos A.1 with c | c
        · rw [c]
        · obtain ⟨m, hm⟩ : ∃ m, A.1 = m + 1 := ⟨A.1 - 1, by omega⟩
          have e5 : cnt A.1 (prW C A m) = 0 := cnt_none fun j hj => by simp [prW]; omega
          rw [show A.1 - 1 = m by omega]
          show sumN _ m = sumN (fun i => cnt A.1 (prW C A i)) A.1
          conv => rhs; rw [hm]
          show _ = sumN (fun i => cnt (m + 1) (prW C A i)) m + cnt (m + 1) (prW C A m)
          rw [← hm, e5]; rfl
      unfold BX11_tidy_26 CX11_tidy_26
      rcases hv with rfl | rfl
      · simp (disch := omega) only [J_add, J_sub, J_mul, J_lt, J_le, J_eq, xbr_true, xbr_false, xbr_pos, xbr_neg, Int.toNat_natCast, all_eq, ex_eq, t_0, q_0_0, q_0_1, q_0_2, q_0_3, q_0_4, q_0_5, q_0_6, q_0_7, q_0_8, q_0_9, i_0_10, p_0_10, i_0_11, p_0_11, i_0_12, p_0_12, t_1, q_1_0, t_3, q_3_0, q_3_1, i_3_2, p_3_2, i_3_3, p_3_3, t_80, q_80_0, t_88, q_88_0, t_90, q_90_0, t_92, q_92_0, q_92_1, q_92_2, i_92_3, p_92_3, i_92_4, p_92_4, t_96, q_96_0, i_96_1, p_96_1, i_96_2, p_96_2, i_96_3, p_96_3, t_100, q_100_0, i_100_1, p_100_1, i_100_2, p_100_2, i_100_3, p_100_3, t_104, q_104_1, q_104_2, q_104_3, q_104_4, q_104_5, q_104_6, q_104_8, q_104_9, q_104_11, q_104_12, q_104_18, q_104_21, q_104_22, q_104_23, q_104_24, q_104_26, q_104_27, q_104_28, q_104_30, q_104_31, i_104_0, p_104_0, i_104_7, p_104_7, i_104_10, p_104_10, i_104_13, p_104_13, i_104_14, p_104_14, i_104_15, p_104_15, i_104_16, p_104_16, i_104_17, p_104_17, i_104_19, p_104_19, i_104_20, p_104_20, i_104_25, p_104_25, i_104_29, p_104_29, a_2, w_2, a_81, w_81, a_89, w_89, a_91, w_91, a_93, w_93, a_94, w_94, a_95, w_95, a_105, w_105, a_106, w_106, a_107, w_107, a_108, w_108, a_109, w_109, a_110, w_110, a_111, w_111, a_112, w_112, a_113, w_113, a_114, w_114, a_115, w_115, a_116, w_116, a_117, w_117, a_118, w_118, a_119, w_119, a_120, w_120, a_121, w_121, a_122, w_122, a_123, w_123, a_124, w_124]
        rw [et]; simp
      · simp (disch := omega) only [J_add, J_sub, J_mul, J_lt, J_le, J_eq, xbr_true, xbr_false, xbr_pos, xbr_neg, Int.toNat_natCast, all_eq, ex_eq, t_0, q_0_0, q_0_1, q_0_2, q_0_3, q_0_4, q_0_5, q_0_6, q_0_7, q_0_8, q_0_9, i_0_10, p_0_10, i_0_11, p_0_11, i_0_12, p_0_12, t_1, q_1_0, t_3, q_3_0, q_3_1, i_3_2, p_3_2, i_3_3, p_3_3, t_80, q_80_0, t_88, q_88_0, t_90, q_90_0, t_92, q_92_0, q_92_1, q_92_2, i_92_3, p_92_3, i_92_4, p_92_4, t_96, q_96_0, i_96_1, p_96_1, i_96_2, p_96_2, i_96_3, p_96_3, t_100, q_100_0, i_100_1, p_100_1, i_100_2, p_100_2, i_100_3, p_100_3, t_104, q_104_1, q_104_2, q_104_3, q_104_4, q_104_5, q_104_6, q_104_8, q_104_9, q_104_11, q_104_12, q_104_18, q_104_21, q_104_22, q_104_23, q_104_24, q_104_26, q_104_27, q_104_28, q_104_30, q_104_31, i_104_0, p_104_0, i_104_7, p_104_7, i_104_10, p_104_10, i_104_13, p_104_13, i_104_14, p_104_14, i_104_15, p_104_15, i_104_16, p_104_16, i_104_17, p_104_17, i_104_19, p_104_19, i_104_20, p_104_20, i_104_25, p_104_25, i_104_29, p_104_29, a_2, w_2, a_81, w_81, a_89, w_89, a_91, w_91, a_93, w_93, a_94, w_94, a_95, w_95, a_105, w_105, a_106, w_106, a_107, w_107, a_108, w_108, a_109, w_109, a_110, w_110, a_111, w_111, a_112, w_112, a_113, w_113, a_114, w_114, a_115, w_115, a_116, w_116, a_117, w_117, a_118, w_118, a_119, w_119, a_120, w_120, a_121, w_121, a_122, w_122, a_123, w_123, a_124, w_124]
        simp
  by_cases c0 : v = 0
  · subst c0
    refine ⟨(sumN (fun i => cnt A.1 (prW C A i)) A.1 : Nat), fun K => ?_, fun K => ?_⟩
    · unfold PX10_tidy
      simp (disch := omega) only [J_add, J_sub, J_mul, J_lt, J_le, J_eq, xbr_true, xbr_false, xbr_pos, xbr_neg, Int.toNat_natCast, all_eq, ex_eq, t_0, q_0_0, q_0_1, q_0_2, q_0_3, q_0_4, q_0_5, q_0_6, q_0_7, q_0_8, q_0_9, i_0_10, p_0_10, i_0_11, p_0_11, i_0_12, p_0_12, t_1, q_1_0, t_3, q_3_0, q_3_1, i_3_2, p_3_2, i_3_3, p_3_3, t_80, q_80_0, t_88, q_88_0, t_90, q_90_0, t_92, q_92_0, q_92_1, q_92_2, i_92_3, p_92_3, i_92_4, p_92_4, t_96, q_96_0, i_96_1, p_96_1, i_96_2, p_96_2, i_96_3, p_96_3, t_100, q_100_0, i_100_1, p_100_1, i_100_2, p_100_2, i_100_3, p_100_3, t_104, q_104_1, q_104_2, q_104_3, q_104_4, q_104_5, q_104_6, q_104_8, q_104_9, q_104_11, q_104_12, q_104_18, q_104_21, q_104_22, q_104_23, q_104_24, q_104_26, q_104_27, q_104_28, q_104_30, q_104_31, i_104_0, p_104_0, i_104_7, p_104_7, i_104_10, p_104_10, i_104_13, p_104_13, i_104_14, p_104_14, i_104_15, p_104_15, i_104_16, p_104_16, i_104_17, p_104_17, i_104_19, p_104_19, i_104_20, p_104_20, i_104_25, p_104_25, i_104_29, p_104_29, a_2, w_2, a_81, w_81, a_89, w_89, a_91, w_91, a_93, w_93, a_94, w_94, a_95, w_95, a_105, w_105, a_106, w_106, a_107, w_107, a_108, w_108, a_109, w_109, a_110, w_110, a_111, w_111, a_112, w_112, a_113, w_113, a_114, w_114, a_115, w_115, a_116, w_116, a_117, w_117, a_118, w_118, a_119, w_119, a_120, w_120, a_121, w_121, a_122, w_122, a_123, w_123, a_124, w_124, pairs]
    · unfold PX11_tidy
      simp (disch := omega) only [J_add, J_sub, J_mul, J_lt, J_le, J_eq, xbr_true, xbr_false, xbr_pos, xbr_neg, Int.toNat_natCast, all_eq, ex_eq, t_0, q_0_0, q_0_1, q_0_2, q_0_3, q_0_4, q_0_5, q_0_6, q_0_7, q_0_8, q_0_9, i_0_10, p_0_10, i_0_11, p_0_11, i_0_12, p_0_12, t_1, q_1_0, t_3, q_3_0, q_3_1, i_3_2, p_3_2, i_3_3, p_3_3, t_80, q_80_0, t_88, q_88_0, t_90, q_90_0, t_92, q_92_0, q_92_1, q_92_2, i_92_3, p_92_3, i_92_4, p_92_4, t_96, q_96_0, i_96_1, p_96_1, i_96_2, p_96_2, i_96_3, p_96_3, t_100, q_100_0, i_100_1, p_100_1, i_100_2, p_100_2, i_100_3, p_100_3, t_104, q_104_1, q_104_2, q_104_3, q_104_4, q_104_5, q_104_6, q_104_8, q_104_9, q_104_11, q_104_12, q_104_18, q_104_21, q_104_22, q_104_23, q_104_24, q_104_26, q_104_27, q_104_28, q_104_30, q_104_31, i_104_0, p_104_0, i_104_7, p_104_7, i_104_10, p_104_10, i_104_13, p_104_13, i_104_14, p_104_14, i_104_15, p_104_15, i_104_16, p_104_16, i_104_17, p_104_17, i_104_19, p_104_19, i_104_20, p_104_20, i_104_25, p_104_25, i_104_29, p_104_29, a_2, w_2, a_81, w_81, a_89, w_89, a_91, w_91, a_93, w_93, a_94, w_94, a_95, w_95, a_105, w_105, a_106, w_106, a_107, w_107, a_108, w_108, a_109, w_109, a_110, w_110, a_111, w_111, a_112, w_112, a_113, w_113, a_114, w_114, a_115, w_115, a_116, w_116, a_117, w_117, a_118, w_118, a_119, w_119, a_120, w_120, a_121, w_121, a_122, w_122, a_123, w_123, a_124, w_124, J_long, m_in, k2.1]
      rw [m26 K 0 (Or.inl rfl), if_pos rfl]
  · by_cases c1 : v = 1
    · subst c1
      refine ⟨fwv (fun i => !aheadC C (A.2.1 i) (A.2.1 (i + 1)) 0) (fun i => A.2.1 i) (A.1 - 1) 0, fun K => ?_, fun K => ?_⟩
      · unfold PX10_tidy
        simp (disch := omega) only [J_add, J_sub, J_mul, J_lt, J_le, J_eq, xbr_true, xbr_false, xbr_pos, xbr_neg, Int.toNat_natCast, all_eq, ex_eq, t_0, q_0_0, q_0_1, q_0_2, q_0_3, q_0_4, q_0_5, q_0_6, q_0_7, q_0_8, q_0_9, i_0_10, p_0_10, i_0_11, p_0_11, i_0_12, p_0_12, t_1, q_1_0, t_3, q_3_0, q_3_1, i_3_2, p_3_2, i_3_3, p_3_3, t_80, q_80_0, t_88, q_88_0, t_90, q_90_0, t_92, q_92_0, q_92_1, q_92_2, i_92_3, p_92_3, i_92_4, p_92_4, t_96, q_96_0, i_96_1, p_96_1, i_96_2, p_96_2, i_96_3, p_96_3, t_100, q_100_0, i_100_1, p_100_1, i_100_2, p_100_2, i_100_3, p_100_3, t_104, q_104_1, q_104_2, q_104_3, q_104_4, q_104_5, q_104_6, q_104_8, q_104_9, q_104_11, q_104_12, q_104_18, q_104_21, q_104_22, q_104_23, q_104_24, q_104_26, q_104_27, q_104_28, q_104_30, q_104_31, i_104_0, p_104_0, i_104_7, p_104_7, i_104_10, p_104_10, i_104_13, p_104_13, i_104_14, p_104_14, i_104_15, p_104_15, i_104_16, p_104_16, i_104_17, p_104_17, i_104_19, p_104_19, i_104_20, p_104_20, i_104_25, p_104_25, i_104_29, p_104_29, a_2, w_2, a_81, w_81, a_89, w_89, a_91, w_91, a_93, w_93, a_94, w_94, a_95, w_95, a_105, w_105, a_106, w_106, a_107, w_107, a_108, w_108, a_109, w_109, a_110, w_110, a_111, w_111, a_112, w_112, a_113, w_113, a_114, w_114, a_115, w_115, a_116, w_116, a_117, w_117, a_118, w_118, a_119, w_119, a_120, w_120, a_121, w_121, a_122, w_122, a_123, w_123, a_124, w_124, fw]
      · unfold PX11_tidy
        simp (disch := omega) only [J_add, J_sub, J_mul, J_lt, J_le, J_eq, xbr_true, xbr_false, xbr_pos, xbr_neg, Int.toNat_natCast, all_eq, ex_eq, t_0, q_0_0, q_0_1, q_0_2, q_0_3, q_0_4, q_0_5, q_0_6, q_0_7, q_0_8, q_0_9, i_0_10, p_0_10, i_0_11, p_0_11, i_0_12, p_0_12, t_1, q_1_0, t_3, q_3_0, q_3_1, i_3_2, p_3_2, i_3_3, p_3_3, t_80, q_80_0, t_88, q_88_0, t_90, q_90_0, t_92, q_92_0, q_92_1, q_92_2, i_92_3, p_92_3, i_92_4, p_92_4, t_96, q_96_0, i_96_1, p_96_1, i_96_2, p_96_2, i_96_3, p_96_3, t_100, q_100_0, i_100_1, p_100_1, i_100_2, p_100_2, i_100_3, p_100_3, t_104, q_104_1, q_104_2, q_104_3, q_104_4, q_104_5, q_104_6, q_104_8, q_104_9, q_104_11, q_104_12, q_104_18, q_104_21, q_104_22, q_104_23, q_104_24, q_104_26, q_104_27, q_104_28, q_104_30, q_104_31, i_104_0, p_104_0, i_104_7, p_104_7, i_104_10, p_104_10, i_104_13, p_104_13, i_104_14, p_104_14, i_104_15, p_104_15, i_104_16, p_104_16, i_104_17, p_104_17, i_104_19, p_104_19, i_104_20, p_104_20, i_104_25, p_104_25, i_104_29, p_104_29, a_2, w_2, a_81, w_81, a_89, w_89, a_91, w_91, a_93, w_93, a_94, w_94, a_95, w_95, a_105, w_105, a_106, w_106, a_107, w_107, a_108, w_108, a_109, w_109, a_110, w_110, a_111, w_111, a_112, w_112, a_113, w_113, a_114, w_114, a_115, w_115, a_116, w_116, a_117, w_117, a_118, w_118, a_119, w_119, a_120, w_120, a_121, w_121, a_122, w_122, a_123, w_123, a_124, w_124, J_long, m_in, k2.1]
        rw [m26 K 1 (Or.inr rfl), if_neg (by omega)]
    · refine ⟨-1002, fun K => ?_, fun K => ?_⟩
      · unfold PX10_tidy
        simp (disch := omega) only [J_add, J_sub, J_mul, J_lt, J_le, J_eq, xbr_true, xbr_false, xbr_pos, xbr_neg, Int.toNat_natCast, all_eq, ex_eq, t_0, q_0_0, q_0_1, q_0_2, q_0_3, q_0_4, q_0_5, q_0_6, q_0_7, q_0_8, q_0_9, i_0_10, p_0_10, i_0_11, p_0_11, i_0_12, p_0_12, t_1, q_1_0, t_3, q_3_0, q_3_1, i_3_2, p_3_2, i_3_3, p_3_3, t_80, q_80_0, t_88, q_88_0, t_90, q_90_0, t_92, q_92_0, q_92_1, q_92_2, i_92_3, p_92_3, i_92_4, p_92_4, t_96, q_96_0, i_96_1, p_96_1, i_96_2, p_96_2, i_96_3, p_96_3, t_100, q_100_0, i_100_1, p_100_1, i_100_2, p_100_2, i_100_3, p_100_3, t_104, q_104_1, q_104_2, q_104_3, q_104_4, q_104_5, q_104_6, q_104_8, q_104_9, q_104_11, q_104_12, q_104_18, q_104_21, q_104_22, q_104_23, q_104_24, q_104_26, q_104_27, q_104_28, q_104_30, q_104_31, i_104_0, p_104_0, i_104_7, p_104_7, i_104_10, p_104_10, i_104_13, p_104_13, i_104_14, p_104_14, i_104_15, p_104_15, i_104_16, p_104_16, i_104_17, p_104_17, i_104_19, p_104_19, i_104_20, p_104_20, i_104_25, p_104_25, i_104_29, p_104_29, a_2, w_2, a_81, w_81, a_89, w_89, a_91, w_91, a_93, w_93, a_94, w_94, a_95, w_95, a_105, w_105, a_106, w_106, a_107, w_107, a_108, w_108, a_109, w_109, a_110, w_110, a_111, w_111, a_112, w_112, a_113, w_113, a_114, w_114, a_115, w_115, a_116, w_116, a_117, w_117, a_118, w_118, a_119, w_119, a_120, w_120, a_121, w_121, a_122, w_122, a_123, w_123, a_124, w_124]
      · unfold PX11_tidy
        simp (disch := omega) only [J_add, J_sub, J_mul, J_lt, J_le, J_eq, xbr_true, xbr_false, xbr_pos, xbr_neg, Int.toNat_natCast, all_eq, ex_eq, t_0, q_0_0, q_0_1, q_0_2, q_0_3, q_0_4, q_0_5, q_0_6, q_0_7, q_0_8, q_0_9, i_0_10, p_0_10, i_0_11, p_0_11, i_0_12, p_0_12, t_1, q_1_0, t_3, q_3_0, q_3_1, i_3_2, p_3_2, i_3_3, p_3_3, t_80, q_80_0, t_88, q_88_0, t_90, q_90_0, t_92, q_92_0, q_92_1, q_92_2, i_92_3, p_92_3, i_92_4, p_92_4, t_96, q_96_0, i_96_1, p_96_1, i_96_2, p_96_2, i_96_3, p_96_3, t_100, q_100_0, i_100_1, p_100_1, i_100_2, p_100_2, i_100_3, p_100_3, t_104, q_104_1, q_104_2, q_104_3, q_104_4, q_104_5, q_104_6, q_104_8, q_104_9, q_104_11, q_104_12, q_104_18, q_104_21, q_104_22, q_104_23, q_104_24, q_104_26, q_104_27, q_104_28, q_104_30, q_104_31, i_104_0, p_104_0, i_104_7, p_104_7, i_104_10, p_104_10, i_104_13, p_104_13, i_104_14, p_104_14, i_104_15, p_104_15, i_104_16, p_104_16, i_104_17, p_104_17, i_104_19, p_104_19, i_104_20, p_104_20, i_104_25, p_104_25, i_104_29, p_104_29, a_2, w_2, a_81, w_81, a_89, w_89, a_91, w_91, a_93, w_93, a_94, w_94, a_95, w_95, a_105, w_105, a_106, w_106, a_107, w_107, a_108, w_108, a_109, w_109, a_110, w_110, a_111, w_111, a_112, w_112, a_113, w_113, a_114, w_114, a_115, w_115, a_116, w_116, a_117, w_117, a_118, w_118, a_119, w_119, a_120, w_120, a_121, w_121, a_122, w_122, a_123, w_123, a_124, w_124, J_long, m_in]
end TIDY
