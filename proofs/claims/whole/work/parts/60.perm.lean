/-! THE SEARCH: the orders, one after the other -/
def turnL (l : List Nat) : Nat := fst1 (l.length - 1) (fun t => !decide (l.getD (l.length - 1 - t) 0 < l.getD (l.length - 2 - t) 0))
def trnK (l : List Nat) : Nat := l.length - 2 - turnL l
def othL (l : List Nat) : Nat := fst1 l.length (fun t => !decide (l.getD (l.length - 1 - t) 0 < l.getD (trnK l) 0))
def othJ (l : List Nat) : Nat := l.length - 1 - othL l
def swL (l : List Nat) (i : Nat) : Nat := if i = trnK l then l.getD (othJ l) 0 else if i = othJ l then l.getD (trnK l) 0 else l.getD i 0
def nxtL (l : List Nat) : List Nat := (List.range l.length).map (fun i => if i ≤ trnK l then swL l i else swL l (l.length + trnK l - i))
def okP (n : Nat) (l : List Nat) : Bool := l.length == n && (List.range n).all (fun i => decide (l.getD i 0 < n))
def chkP (n : Nat) : Nat → List Nat → Bool
  | 0, _ => true
  | m + 1, l => okP n l && ((decide (turnL l < n - 1) == decide (m ≠ 0)) && chkP n m (nxtL l))
def facN (n : Nat) : Nat := [1, 1, 2, 6, 24, 120].getD n 0
theorem chk_all : ∀ n, n ≤ 5 → chkP n (facN n) (List.range n) = true := by decide +kernel
theorem facN_b : ∀ n, n ≤ 5 → 1 ≤ facN n ∧ facN n ≤ 120 := by decide +kernel
def pmL (n : Nat) : Nat → List Nat
  | 0 => List.range n
  | t + 1 => nxtL (pmL n t)
theorem pm_chk {n : Nat} (hn : n ≤ 5) : ∀ t m, t + m = facN n → chkP n m (pmL n t) = true := by
  intro t
  induction t with
  | zero =>
    intro m hm
    have := chk_all n hn
    rw [show m = facN n by omega]
    exact this
  | succ t ih =>
    intro m hm
    have h := ih (m + 1) (by omega)
    have h2 : (okP n (pmL n t) && ((decide (turnL (pmL n t) < n - 1) == decide (m ≠ 0)) && chkP n m (nxtL (pmL n t)))) = true := h
    simp only [Bool.and_eq_true] at h2
    exact h2.2.2
theorem pm_ok {n t : Nat} (hn : n ≤ 5) (ht : t < facN n) : (pmL n t).length = n ∧ (∀ i, i < n → (pmL n t).getD i 0 < n) ∧ (turnL (pmL n t) < n - 1 ↔ t + 1 < facN n) := by
  obtain ⟨m, hm⟩ : ∃ m, t + (m + 1) = facN n := ⟨facN n - t - 1, by omega⟩
  have h := pm_chk hn t (m + 1) hm
  have h2 : (okP n (pmL n t) && ((decide (turnL (pmL n t) < n - 1) == decide (m ≠ 0)) && chkP n m (nxtL (pmL n t)))) = true := h
  simp only [Bool.and_eq_true, okP, beq_iff_eq, List.all_eq_true, List.mem_range, decide_eq_true_eq, decide_eq_decide] at h2
  refine ⟨h2.1.1, h2.1.2, ?_⟩
  rw [h2.2.1]
  omega
theorem nxtL_len (l : List Nat) : (nxtL l).length = l.length := by unfold nxtL; simp
theorem nxtL_at {l : List Nat} {i : Nat} (hi : i < l.length) : (nxtL l).getD i 0 = if i ≤ trnK l then swL l i else swL l (l.length + trnK l - i) := by
  unfold nxtL
  simp [List.getD_eq_getElem?_getD, hi]
/-- a stretch turned round -/
def rvC (D : Nat → Nat → Int) (o a c : Nat) : Nat → Nat → Int := fun x j => if x = o ∧ a ≤ j ∧ j ≤ c then D o (a + c - j) else D x j
theorem rvC_ne {D : Nat → Nat → Int} {o a c x : Nat} (h : x ≠ o) : rvC D o a c x = D x := by
  funext j; unfold rvC; rw [if_neg (fun q => h q.1)]
theorem rvC_end {D : Nat → Nat → Int} {o a c : Nat} (h : c ≤ a) : rvC D o a c = D := by
  funext x j
  unfold rvC
  by_cases q : x = o ∧ a ≤ j ∧ j ≤ c
  · rw [if_pos q, q.1, show a + c - j = j by omega]
  · rw [if_neg q]
theorem rvC_step {D : Nat → Nat → Int} {o a c : Nat} (h : a < c) : rvC (up (up D o a (D o c)) o c (D o a)) o (a + 1) (c - 1) = rvC D o a c := by
  funext x j
  unfold rvC
  by_cases q : x = o ∧ a + 1 ≤ j ∧ j ≤ c - 1
  · rw [if_pos q, if_pos (by omega), up_nk (by omega), up_nk (by omega), show a + 1 + (c - 1) - j = a + c - j by omega]
  · rw [if_neg q]
    by_cases q2 : x = o ∧ a ≤ j ∧ j ≤ c
    · rw [if_pos q2]
      obtain ⟨q3, q4, q5⟩ := q2
      subst q3
      by_cases q6 : j = c
      · subst q6
        rw [up_eq, show a + j - j = a by omega]
      · have : j = a := by omega
        subst this
        rw [up_nk (by omega), up_eq, show j + c - j = c by omega]
    · rw [if_neg q2]
      by_cases q3 : x = o
      · subst q3
        rw [up_nk (by omega), up_nk (by omega)]
      · rw [up_ne q3, up_ne q3]
section PRM
variable {z : Nat} {g : Mem} {C D : Nat → Nat → Int} {n : Nat} {l : List Nat} {τ : Nat → Nat}
theorem s_ent8 {o : Nat} {K : Int32 → Prop} (h : okA 100 o 8 = true) {i : Nat} (hi : i < 8) : PX10_entry (ad z o) (J (i : Nat)) (lay z g C) K = K (J (C o i)) := by
  rw [s_entry h (by omega) (by omega), if_pos (by omega), Int.toNat_natCast]
theorem s_wrt8 {o : Nat} {K : Mem → Prop} (h : okA 100 o 8 = true) {i : Nat} {v : Int} (hi : i < 8) : PX10_write (ad z o) (J (i : Nat)) (J v) (lay z g C) K = K (lay z g (up C o i v)) := by
  rw [s_write h (by omega) (by omega), if_pos (by omega), Int.toNat_natCast]
theorem s_swap {K : Mem → Prop} {a c : Nat} (ha : a < 8) (hc : c < 8) : PX7_swap (ad z 92) (J (a : Nat)) (J (c : Nat)) (lay z g D) K = K (lay z g (up (up D 94 a (D 94 c)) 94 c (D 94 a))) := by
  unfold PX7_swap
  simp (disch := omega) only [J_add, J_sub, J_mul, J_lt, J_le, J_eq, xbr_true, xbr_false, xbr_pos, xbr_neg, Int.toNat_natCast, all_eq, ex_eq, t_0, q_0_0, q_0_1, q_0_2, q_0_3, q_0_4, q_0_5, q_0_6, q_0_7, q_0_8, q_0_9, i_0_10, p_0_10, i_0_11, p_0_11, i_0_12, p_0_12, t_1, q_1_0, t_3, q_3_0, q_3_1, i_3_2, p_3_2, i_3_3, p_3_3, t_80, q_80_0, t_88, q_88_0, t_90, q_90_0, t_92, q_92_0, q_92_1, q_92_2, i_92_3, p_92_3, i_92_4, p_92_4, t_96, q_96_0, i_96_1, p_96_1, i_96_2, p_96_2, i_96_3, p_96_3, t_100, q_100_0, i_100_1, p_100_1, i_100_2, p_100_2, i_100_3, p_100_3, t_104, q_104_1, q_104_2, q_104_3, q_104_4, q_104_5, q_104_6, q_104_8, q_104_9, q_104_11, q_104_12, q_104_18, q_104_21, q_104_22, q_104_23, q_104_24, q_104_26, q_104_27, q_104_28, q_104_30, q_104_31, i_104_0, p_104_0, i_104_7, p_104_7, i_104_10, p_104_10, i_104_13, p_104_13, i_104_14, p_104_14, i_104_15, p_104_15, i_104_16, p_104_16, i_104_17, p_104_17, i_104_19, p_104_19, i_104_20, p_104_20, i_104_25, p_104_25, i_104_29, p_104_29, a_2, w_2, a_81, w_81, a_89, w_89, a_91, w_91, a_93, w_93, a_94, w_94, a_95, w_95, a_105, w_105, a_106, w_106, a_107, w_107, a_108, w_108, a_109, w_109, a_110, w_110, a_111, w_111, a_112, w_112, a_113, w_113, a_114, w_114, a_115, w_115, a_116, w_116, a_117, w_117, a_118, w_118, a_119, w_119, a_120, w_120, a_121, w_121, a_122, w_122, a_123, w_123, a_124, w_124, s_ent8 (o := 94) rfl ha, s_ent8 (o := 94) rfl hc, s_wrt8 (o := 94) rfl ha, s_wrt8 (o := 94) rfl hc]
theorem s_rev {K : Int32 → Mem → Prop} : ∀ m a c D, c ≤ a + m → c < 8 → a < 8 → lp (BX7_nextTour_99 K (ad z 92)) (lay z g D, J (a : Nat), J (c : Nat)) = K (J 1) (lay z g (rvC D 94 a c)) := by
  intro m
  induction m with
  | zero =>
    intro a c D h1 h2 h3
    refine lp_last fun kc => ?_
    rw [rvC_end (by omega)]
    unfold BX7_nextTour_99 CX7_nextTour_99
    simp (disch := omega) only [J_add, J_sub, J_mul, J_lt, J_le, J_eq, xbr_true, xbr_false, xbr_pos, xbr_neg, Int.toNat_natCast, all_eq, ex_eq, isB1, true_and]
  | succ m ih =>
    intro a c D h1 h2 h3
    by_cases q : a < c
    · rw [← rvC_step q, ← ih (a + 1) (c - 1) _ (by omega) (by omega) (by omega)]
      refine lp_step fun kc => ?_
      have e1 : (a : Int) + 1 = ((a + 1 : Nat) : Int) := by omega
      have e2 : (c : Int) + -1 = ((c - 1 : Nat) : Int) := by omega
      unfold BX7_nextTour_99 CX7_nextTour_99
      simp (disch := omega) only [J_add, J_sub, J_mul, J_lt, J_le, J_eq, xbr_true, xbr_false, xbr_pos, xbr_neg, Int.toNat_natCast, all_eq, ex_eq, s_swap h3 h2, e1, e2]
    · refine lp_last fun kc => ?_
      rw [rvC_end (by omega)]
      unfold BX7_nextTour_99 CX7_nextTour_99
      simp (disch := omega) only [J_add, J_sub, J_mul, J_lt, J_le, J_eq, xbr_true, xbr_false, xbr_pos, xbr_neg, Int.toNat_natCast, all_eq, ex_eq, isB1, true_and]
theorem m_rev {K : Int32 → Mem → Prop} : ∀ m a c D, c ≤ a + m → c < 5 → a ≤ 5 → lp (BX11_nextRow_107 K (ad z 104)) (lay z g D, J (a : Nat), J (c : Nat)) = K (J 1) (lay z g (rvC D 120 a c)) := by
  intro m
  induction m with
  | zero =>
    intro a c D h1 h2 h3
    refine lp_last fun kc => ?_
    rw [rvC_end (by omega)]
    unfold BX11_nextRow_107 CX11_nextRow_107
    simp (disch := omega) only [J_add, J_sub, J_mul, J_lt, J_le, J_eq, xbr_true, xbr_false, xbr_pos, xbr_neg, Int.toNat_natCast, all_eq, ex_eq, isB1, true_and]
  | succ m ih =>
    intro a c D h1 h2 h3
    by_cases q : a < c
    · rw [← rvC_step q, ← ih (a + 1) (c - 1) _ (by omega) (by omega) (by omega)]
      refine lp_step fun kc => ?_
      have e1 : (a : Int) + 1 = ((a + 1 : Nat) : Int) := by omega
      have e2 : (c : Int) + -1 = ((c - 1 : Nat) : Int) := by omega
      unfold BX11_nextRow_107 CX11_nextRow_107
      simp (disch := omega) only [J_add, J_sub, J_mul, J_lt, J_le, J_eq, xbr_true, xbr_false, xbr_pos, xbr_neg, Int.toNat_natCast, all_eq, ex_eq, t_0, q_0_0, q_0_1, q_0_2, q_0_3, q_0_4, q_0_5, q_0_6, q_0_7, q_0_8, q_0_9, i_0_10, p_0_10, i_0_11, p_0_11, i_0_12, p_0_12, t_1, q_1_0, t_3, q_3_0, q_3_1, i_3_2, p_3_2, i_3_3, p_3_3, t_80, q_80_0, t_88, q_88_0, t_90, q_90_0, t_92, q_92_0, q_92_1, q_92_2, i_92_3, p_92_3, i_92_4, p_92_4, t_96, q_96_0, i_96_1, p_96_1, i_96_2, p_96_2, i_96_3, p_96_3, t_100, q_100_0, i_100_1, p_100_1, i_100_2, p_100_2, i_100_3, p_100_3, t_104, q_104_1, q_104_2, q_104_3, q_104_4, q_104_5, q_104_6, q_104_8, q_104_9, q_104_11, q_104_12, q_104_18, q_104_21, q_104_22, q_104_23, q_104_24, q_104_26, q_104_27, q_104_28, q_104_30, q_104_31, i_104_0, p_104_0, i_104_7, p_104_7, i_104_10, p_104_10, i_104_13, p_104_13, i_104_14, p_104_14, i_104_15, p_104_15, i_104_16, p_104_16, i_104_17, p_104_17, i_104_19, p_104_19, i_104_20, p_104_20, i_104_25, p_104_25, i_104_29, p_104_29, a_2, w_2, a_81, w_81, a_89, w_89, a_91, w_91, a_93, w_93, a_94, w_94, a_95, w_95, a_105, w_105, a_106, w_106, a_107, w_107, a_108, w_108, a_109, w_109, a_110, w_110, a_111, w_111, a_112, w_112, a_113, w_113, a_114, w_114, a_115, w_115, a_116, w_116, a_117, w_117, a_118, w_118, a_119, w_119, a_120, w_120, a_121, w_121, a_122, w_122, a_123, w_123, a_124, w_124, e1, e2]
    · refine lp_last fun kc => ?_
      rw [rvC_end (by omega)]
      unfold BX11_nextRow_107 CX11_nextRow_107
      simp (disch := omega) only [J_add, J_sub, J_mul, J_lt, J_le, J_eq, xbr_true, xbr_false, xbr_pos, xbr_neg, Int.toNat_natCast, all_eq, ex_eq, isB1, true_and]
/-- the order at array o is that of l, by the shelves τ -/
def TrI (D : Nat → Nat → Int) (o n : Nat) (τ : Nat → Nat) (l : List Nat) : Prop := l.length = n ∧ (∀ i, i < n → l.getD i 0 < n) ∧ ∀ i, i < n → D o i = τ (l.getD i 0)
def TaI (n : Nat) (τ : Nat → Nat) : Prop := n ≤ 5 ∧ (∀ i j, i < j → j < n → τ i < τ j) ∧ ∀ i, i < n → τ i < 8
theorem TaI.lt {i j : Nat} (h : TaI n τ) (hi : i < n) (hj : j < n) : τ i < τ j ↔ i < j := by
  constructor
  · intro q
    rcases Nat.lt_trichotomy i j with c | c | c
    · exact c
    · rw [c] at q; omega
    · have := h.2.1 j i c hi; omega
  · exact fun q => h.2.1 i j q hj
theorem TrI.next {o : Nat} (h : TrI D o n τ l) (ht : turnL l < n - 1) (hj : trnK l < othJ l) (hj2 : othJ l < n) : TrI (rvC (up (up D o (trnK l) (D o (othJ l))) o (othJ l) (D o (trnK l))) o (trnK l + 1) (n - 1)) o n τ (nxtL l) := by
  obtain ⟨h1, h2, h3⟩ := h
  have hk : trnK l < n := by omega
  have sb : ∀ i, i < n → swL l i < n := fun i hi => by
    unfold swL
    split
    · exact h2 _ hj2
    · split
      · exact h2 _ hk
      · exact h2 _ hi
  have sv : ∀ i, i < n → up (up D o (trnK l) (D o (othJ l))) o (othJ l) (D o (trnK l)) o i = τ (swL l i) := fun i hi => by
    unfold swL
    by_cases c1 : i = othJ l
    · rw [if_neg (by omega), if_pos c1, c1, up_eq]; exact h3 _ hk
    · rw [up_nk c1]
      by_cases c2 : i = trnK l
      · rw [if_pos c2, c2, up_eq]; exact h3 _ hj2
      · rw [up_nk c2, if_neg c2, if_neg c1]; exact h3 _ hi
  refine ⟨by rw [nxtL_len]; exact h1, fun i hi => ?_, fun i hi => ?_⟩
  · rw [nxtL_at (by omega)]
    split
    · exact sb _ hi
    · exact sb _ (by omega)
  · rw [nxtL_at (by omega)]
    unfold rvC
    by_cases c : i ≤ trnK l
    · rw [if_neg (by omega), if_pos c]; exact sv i hi
    · rw [if_pos (by omega), if_neg c, sv _ (by omega)]
      rw [show trnK l + 1 + (n - 1) - i = l.length + trnK l - i by omega]
/-- what the two loops find -/
theorem turn_at (h1 : l.length = n) (ht : turnL l < n - 1) : trnK l + 1 < n ∧ trnK l + turnL l + 2 = n ∧ ¬ l.getD (trnK l + 1) 0 < l.getD (trnK l) 0 := by
  have h2 := fst1_at (n := l.length - 1) (f := fun t => !decide (l.getD (l.length - 1 - t) 0 < l.getD (l.length - 2 - t) 0)) (by show turnL l < _; omega)
  have h3 : (!decide (l.getD (l.length - 1 - turnL l) 0 < l.getD (l.length - 2 - turnL l) 0)) = true := h2
  have e : l.length - 1 - turnL l = trnK l + 1 := by unfold trnK; omega
  have e2 : l.length - 2 - turnL l = trnK l := rfl
  rw [e, e2] at h3
  refine ⟨by unfold trnK; omega, by unfold trnK; omega, by simpa using h3⟩
theorem oth_at (h1 : l.length = n) (ht : turnL l < n - 1) : trnK l < othJ l ∧ othJ l < n ∧ othL l + othJ l + 1 = n ∧ ¬ l.getD (othJ l) 0 < l.getD (trnK l) 0 := by
  obtain ⟨p1, p2, p3⟩ := turn_at h1 ht
  have hlt : othL l ≤ turnL l := by
    rcases Nat.lt_or_ge (turnL l) (othL l) with c | c
    · have := fst1_lt (n := l.length) (f := fun t => !decide (l.getD (l.length - 1 - t) 0 < l.getD (trnK l) 0)) c
      have h5 : l.getD (l.length - 1 - turnL l) 0 < l.getD (trnK l) 0 := by simpa using this
      rw [show l.length - 1 - turnL l = trnK l + 1 by omega] at h5
      exact absurd h5 p3
    · exact c
  have h2 := fst1_at (n := l.length) (f := fun t => !decide (l.getD (l.length - 1 - t) 0 < l.getD (trnK l) 0)) (by show othL l < _; omega)
  have h3 : (!decide (l.getD (l.length - 1 - othL l) 0 < l.getD (trnK l) 0)) = true := h2
  have e : l.length - 1 - othL l = othJ l := rfl
  rw [e] at h3
  refine ⟨by unfold othJ; omega, by unfold othJ; omega, by unfold othJ; omega, by simpa using h3⟩
theorem turn_lt (h1 : l.length = n) {t : Nat} (h : t < turnL l) : t + 2 ≤ n ∧ l.getD (n - 2 - t + 1) 0 < l.getD (n - 2 - t) 0 := by
  have h0 := fst1_le (l.length - 1) (fun t => !decide (l.getD (l.length - 1 - t) 0 < l.getD (l.length - 2 - t) 0))
  have h0' : turnL l ≤ l.length - 1 := h0
  have h2 := fst1_lt (n := l.length - 1) (f := fun t => !decide (l.getD (l.length - 1 - t) 0 < l.getD (l.length - 2 - t) 0)) h
  have h3 : l.getD (l.length - 1 - t) 0 < l.getD (l.length - 2 - t) 0 := by simpa using h2
  rw [h1] at h3
  refine ⟨by omega, ?_⟩
  rw [show n - 2 - t + 1 = n - 1 - t by omega]
  exact h3
theorem oth_lt (h1 : l.length = n) {t : Nat} (h : t < othL l) : l.getD (n - 1 - t) 0 < l.getD (trnK l) 0 := by
  have h2 := fst1_lt (n := l.length) (f := fun t => !decide (l.getD (l.length - 1 - t) 0 < l.getD (trnK l) 0)) h
  have h3 : l.getD (l.length - 1 - t) 0 < l.getD (trnK l) 0 := by simpa using h2
  rw [h1] at h3
  exact h3
theorem s_nextTour (hT : TaI n τ) (h : TrI D 94 n τ l) (hn : D 92 3 = n) : (turnL l < n - 1 → ∃ D' : Nat → Nat → Int, (∀ a, a ≠ 94 → D' a = D a) ∧ TrI D' 94 n τ (nxtL l) ∧ ∀ K, PX7_nextTour (ad z 92) (lay z g D) K = K (J 1) (lay z g D')) ∧ (¬ turnL l < n - 1 → ∀ K, PX7_nextTour (ad z 92) (lay z g D) K = K (J 0) (lay z g D)) := by
  obtain ⟨h1, h2, h3⟩ := h
  have n5 := hT.1
  have vb : ∀ i, i < n → 0 ≤ D 94 i ∧ D 94 i < 8 := fun i hi => by
    have := hT.2.2 _ (h2 i hi)
    rw [h3 i hi]; omega
  have vlt : ∀ i j, i < n → j < n → (D 94 i < D 94 j ↔ l.getD i 0 < l.getD j 0) := fun i j hi hj => by
    rw [h3 i hi, h3 j hj, ← hT.lt (h2 i hi) (h2 j hj)]
    omega
  have tl : turnL l ≤ n - 1 := by have := fst1_le (l.length - 1) (fun t => !decide (l.getD (l.length - 1 - t) 0 < l.getD (l.length - 2 - t) 0)); unfold turnL; omega
  have lp7 : ∀ K, PX7_nextTour (ad z 92) (lay z g D) K = lp (BX7_nextTour_7 K (lay z g D) (ad z 92)) (J ((n : Int) - 2 - (turnL l : Int))) := fun K => by
    have key : ∀ t, t ≤ turnL l → lp (BX7_nextTour_7 K (lay z g D) (ad z 92)) (J ((n : Int) - 2)) = lp (BX7_nextTour_7 K (lay z g D) (ad z 92)) (J ((n : Int) - 2 - (t : Int))) := by
      intro t
      induction t with
      | zero => intro _; rw [show (n : Int) - 2 - ((0 : Nat) : Int) = (n : Int) - 2 by omega]
      | succ t ih =>
        intro ht
        rw [ih (by omega)]
        obtain ⟨p1, p2⟩ := turn_lt h1 (show t < turnL l by omega)
        have e1 : (n : Int) - 2 - (t : Int) = ((n - 2 - t : Nat) : Int) := by omega
        have e2 : ((n - 2 - t : Nat) : Int) + 1 = ((n - 2 - t + 1 : Nat) : Int) := by omega
        have e3 : ((n - 2 - t : Nat) : Int) + -1 = (n : Int) - 2 - ((t + 1 : Nat) : Int) := by omega
        rw [e1]
        have b1 := vb (n - 2 - t) (by omega)
        have b2 := vb (n - 2 - t + 1) (by omega)
        have lt := (vlt (n - 2 - t + 1) (n - 2 - t) (by omega) (by omega)).mpr p2
        refine lp_step fun kc => ?_
        unfold BX7_nextTour_7 CX7_nextTour_7
        simp (disch := omega) only [J_add, J_sub, J_mul, J_lt, J_le, J_eq, xbr_true, xbr_false, xbr_pos, xbr_neg, Int.toNat_natCast, all_eq, ex_eq, t_0, q_0_0, q_0_1, q_0_2, q_0_3, q_0_4, q_0_5, q_0_6, q_0_7, q_0_8, q_0_9, i_0_10, p_0_10, i_0_11, p_0_11, i_0_12, p_0_12, t_1, q_1_0, t_3, q_3_0, q_3_1, i_3_2, p_3_2, i_3_3, p_3_3, t_80, q_80_0, t_88, q_88_0, t_90, q_90_0, t_92, q_92_0, q_92_1, q_92_2, i_92_3, p_92_3, i_92_4, p_92_4, t_96, q_96_0, i_96_1, p_96_1, i_96_2, p_96_2, i_96_3, p_96_3, t_100, q_100_0, i_100_1, p_100_1, i_100_2, p_100_2, i_100_3, p_100_3, t_104, q_104_1, q_104_2, q_104_3, q_104_4, q_104_5, q_104_6, q_104_8, q_104_9, q_104_11, q_104_12, q_104_18, q_104_21, q_104_22, q_104_23, q_104_24, q_104_26, q_104_27, q_104_28, q_104_30, q_104_31, i_104_0, p_104_0, i_104_7, p_104_7, i_104_10, p_104_10, i_104_13, p_104_13, i_104_14, p_104_14, i_104_15, p_104_15, i_104_16, p_104_16, i_104_17, p_104_17, i_104_19, p_104_19, i_104_20, p_104_20, i_104_25, p_104_25, i_104_29, p_104_29, a_2, w_2, a_81, w_81, a_89, w_89, a_91, w_91, a_93, w_93, a_94, w_94, a_95, w_95, a_105, w_105, a_106, w_106, a_107, w_107, a_108, w_108, a_109, w_109, a_110, w_110, a_111, w_111, a_112, w_112, a_113, w_113, a_114, w_114, a_115, w_115, a_116, w_116, a_117, w_117, a_118, w_118, a_119, w_119, a_120, w_120, a_121, w_121, a_122, w_122, a_123, w_123, a_124, w_124, s_ent8 (o := 94) rfl (show n - 2 - t < 8 by omega), e2, s_ent8 (o := 94) rfl (show n - 2 - t + 1 < 8 by omega), e3]
    unfold PX7_nextTour
    simp (disch := omega) only [J_add, J_sub, J_mul, J_lt, J_le, J_eq, xbr_true, xbr_false, xbr_pos, xbr_neg, Int.toNat_natCast, all_eq, ex_eq, t_0, q_0_0, q_0_1, q_0_2, q_0_3, q_0_4, q_0_5, q_0_6, q_0_7, q_0_8, q_0_9, i_0_10, p_0_10, i_0_11, p_0_11, i_0_12, p_0_12, t_1, q_1_0, t_3, q_3_0, q_3_1, i_3_2, p_3_2, i_3_3, p_3_3, t_80, q_80_0, t_88, q_88_0, t_90, q_90_0, t_92, q_92_0, q_92_1, q_92_2, i_92_3, p_92_3, i_92_4, p_92_4, t_96, q_96_0, i_96_1, p_96_1, i_96_2, p_96_2, i_96_3, p_96_3, t_100, q_100_0, i_100_1, p_100_1, i_100_2, p_100_2, i_100_3, p_100_3, t_104, q_104_1, q_104_2, q_104_3, q_104_4, q_104_5, q_104_6, q_104_8, q_104_9, q_104_11, q_104_12, q_104_18, q_104_21, q_104_22, q_104_23, q_104_24, q_104_26, q_104_27, q_104_28, q_104_30, q_104_31, i_104_0, p_104_0, i_104_7, p_104_7, i_104_10, p_104_10, i_104_13, p_104_13, i_104_14, p_104_14, i_104_15, p_104_15, i_104_16, p_104_16, i_104_17, p_104_17, i_104_19, p_104_19, i_104_20, p_104_20, i_104_25, p_104_25, i_104_29, p_104_29, a_2, w_2, a_81, w_81, a_89, w_89, a_91, w_91, a_93, w_93, a_94, w_94, a_95, w_95, a_105, w_105, a_106, w_106, a_107, w_107, a_108, w_108, a_109, w_109, a_110, w_110, a_111, w_111, a_112, w_112, a_113, w_113, a_114, w_114, a_115, w_115, a_116, w_116, a_117, w_117, a_118, w_118, a_119, w_119, a_120, w_120, a_121, w_121, a_122, w_122, a_123, w_123, a_124, w_124, hn]
    exact key _ (Nat.le_refl _)
  constructor
  · intro ht
    obtain ⟨p1, p2, p3⟩ := turn_at h1 ht
    obtain ⟨q1, q2, q3, q4⟩ := oth_at h1 ht
    refine ⟨_, fun a ha => ?_, TrI.next ⟨h1, h2, h3⟩ ht q1 q2, fun K => ?_⟩
    · rw [rvC_ne ha, up_ne ha, up_ne ha]
    · rw [lp7]
      have e1 : (n : Int) - 2 - (turnL l : Int) = (trnK l : Int) := by omega
      have e2 : (trnK l : Int) + 1 = ((trnK l + 1 : Nat) : Int) := by omega
      have b1 := vb (trnK l) (by omega)
      have b2 := vb (trnK l + 1) (by omega)
      have nlt : ¬ D 94 (trnK l + 1) < D 94 (trnK l) := fun q => p3 ((vlt _ _ (by omega) (by omega)).mp q)
      rw [e1]
      refine lp_last fun kc => ?_
      unfold BX7_nextTour_7 CX7_nextTour_7
      simp (disch := omega) only [J_add, J_sub, J_mul, J_lt, J_le, J_eq, xbr_true, xbr_false, xbr_pos, xbr_neg, Int.toNat_natCast, all_eq, ex_eq, t_0, q_0_0, q_0_1, q_0_2, q_0_3, q_0_4, q_0_5, q_0_6, q_0_7, q_0_8, q_0_9, i_0_10, p_0_10, i_0_11, p_0_11, i_0_12, p_0_12, t_1, q_1_0, t_3, q_3_0, q_3_1, i_3_2, p_3_2, i_3_3, p_3_3, t_80, q_80_0, t_88, q_88_0, t_90, q_90_0, t_92, q_92_0, q_92_1, q_92_2, i_92_3, p_92_3, i_92_4, p_92_4, t_96, q_96_0, i_96_1, p_96_1, i_96_2, p_96_2, i_96_3, p_96_3, t_100, q_100_0, i_100_1, p_100_1, i_100_2, p_100_2, i_100_3, p_100_3, t_104, q_104_1, q_104_2, q_104_3, q_104_4, q_104_5, q_104_6, q_104_8, q_104_9, q_104_11, q_104_12, q_104_18, q_104_21, q_104_22, q_104_23, q_104_24, q_104_26, q_104_27, q_104_28, q_104_30, q_104_31, i_104_0, p_104_0, i_104_7, p_104_7, i_104_10, p_104_10, i_104_13, p_104_13, i_104_14, p_104_14, i_104_15, p_104_15, i_104_16, p_104_16, i_104_17, p_104_17, i_104_19, p_104_19, i_104_20, p_104_20, i_104_25, p_104_25, i_104_29, p_104_29, a_2, w_2, a_81, w_81, a_89, w_89, a_91, w_91, a_93, w_93, a_94, w_94, a_95, w_95, a_105, w_105, a_106, w_106, a_107, w_107, a_108, w_108, a_109, w_109, a_110, w_110, a_111, w_111, a_112, w_112, a_113, w_113, a_114, w_114, a_115, w_115, a_116, w_116, a_117, w_117, a_118, w_118, a_119, w_119, a_120, w_120, a_121, w_121, a_122, w_122, a_123, w_123, a_124, w_124, s_ent8 (o := 94) rfl (show trnK l < 8 by omega), e2, s_ent8 (o := 94) rfl (show trnK l + 1 < 8 by omega)]
      unfold JX7_nextTour_38
      simp (disch := omega) only [J_add, J_sub, J_mul, J_lt, J_le, J_eq, xbr_true, xbr_false, xbr_pos, xbr_neg, Int.toNat_natCast, all_eq, ex_eq, t_0, q_0_0, q_0_1, q_0_2, q_0_3, q_0_4, q_0_5, q_0_6, q_0_7, q_0_8, q_0_9, i_0_10, p_0_10, i_0_11, p_0_11, i_0_12, p_0_12, t_1, q_1_0, t_3, q_3_0, q_3_1, i_3_2, p_3_2, i_3_3, p_3_3, t_80, q_80_0, t_88, q_88_0, t_90, q_90_0, t_92, q_92_0, q_92_1, q_92_2, i_92_3, p_92_3, i_92_4, p_92_4, t_96, q_96_0, i_96_1, p_96_1, i_96_2, p_96_2, i_96_3, p_96_3, t_100, q_100_0, i_100_1, p_100_1, i_100_2, p_100_2, i_100_3, p_100_3, t_104, q_104_1, q_104_2, q_104_3, q_104_4, q_104_5, q_104_6, q_104_8, q_104_9, q_104_11, q_104_12, q_104_18, q_104_21, q_104_22, q_104_23, q_104_24, q_104_26, q_104_27, q_104_28, q_104_30, q_104_31, i_104_0, p_104_0, i_104_7, p_104_7, i_104_10, p_104_10, i_104_13, p_104_13, i_104_14, p_104_14, i_104_15, p_104_15, i_104_16, p_104_16, i_104_17, p_104_17, i_104_19, p_104_19, i_104_20, p_104_20, i_104_25, p_104_25, i_104_29, p_104_29, a_2, w_2, a_81, w_81, a_89, w_89, a_91, w_91, a_93, w_93, a_94, w_94, a_95, w_95, a_105, w_105, a_106, w_106, a_107, w_107, a_108, w_108, a_109, w_109, a_110, w_110, a_111, w_111, a_112, w_112, a_113, w_113, a_114, w_114, a_115, w_115, a_116, w_116, a_117, w_117, a_118, w_118, a_119, w_119, a_120, w_120, a_121, w_121, a_122, w_122, a_123, w_123, a_124, w_124, hn]
      have key : ∀ t, t ≤ othL l → lp (BX7_nextTour_51 K (lay z g D) (ad z 92) (J (trnK l : Nat))) (J ((n : Int) - 1)) = lp (BX7_nextTour_51 K (lay z g D) (ad z 92) (J (trnK l : Nat))) (J ((n : Int) - 1 - (t : Int))) := by
        intro t
        induction t with
        | zero => intro _; rw [show (n : Int) - 1 - ((0 : Nat) : Int) = (n : Int) - 1 by omega]
        | succ t ih =>
          intro ht'
          rw [ih (by omega)]
          have p5 := oth_lt h1 (show t < othL l by omega)
          have f1 : (n : Int) - 1 - (t : Int) = ((n - 1 - t : Nat) : Int) := by omega
          have f3 : ((n - 1 - t : Nat) : Int) + -1 = (n : Int) - 1 - ((t + 1 : Nat) : Int) := by omega
          rw [f1]
          have c1 := vb (n - 1 - t) (by omega)
          have lt := (vlt (n - 1 - t) (trnK l) (by omega) (by omega)).mpr p5
          refine lp_step fun kc => ?_
          unfold BX7_nextTour_51 CX7_nextTour_51
          simp (disch := omega) only [J_add, J_sub, J_mul, J_lt, J_le, J_eq, xbr_true, xbr_false, xbr_pos, xbr_neg, Int.toNat_natCast, all_eq, ex_eq, t_0, q_0_0, q_0_1, q_0_2, q_0_3, q_0_4, q_0_5, q_0_6, q_0_7, q_0_8, q_0_9, i_0_10, p_0_10, i_0_11, p_0_11, i_0_12, p_0_12, t_1, q_1_0, t_3, q_3_0, q_3_1, i_3_2, p_3_2, i_3_3, p_3_3, t_80, q_80_0, t_88, q_88_0, t_90, q_90_0, t_92, q_92_0, q_92_1, q_92_2, i_92_3, p_92_3, i_92_4, p_92_4, t_96, q_96_0, i_96_1, p_96_1, i_96_2, p_96_2, i_96_3, p_96_3, t_100, q_100_0, i_100_1, p_100_1, i_100_2, p_100_2, i_100_3, p_100_3, t_104, q_104_1, q_104_2, q_104_3, q_104_4, q_104_5, q_104_6, q_104_8, q_104_9, q_104_11, q_104_12, q_104_18, q_104_21, q_104_22, q_104_23, q_104_24, q_104_26, q_104_27, q_104_28, q_104_30, q_104_31, i_104_0, p_104_0, i_104_7, p_104_7, i_104_10, p_104_10, i_104_13, p_104_13, i_104_14, p_104_14, i_104_15, p_104_15, i_104_16, p_104_16, i_104_17, p_104_17, i_104_19, p_104_19, i_104_20, p_104_20, i_104_25, p_104_25, i_104_29, p_104_29, a_2, w_2, a_81, w_81, a_89, w_89, a_91, w_91, a_93, w_93, a_94, w_94, a_95, w_95, a_105, w_105, a_106, w_106, a_107, w_107, a_108, w_108, a_109, w_109, a_110, w_110, a_111, w_111, a_112, w_112, a_113, w_113, a_114, w_114, a_115, w_115, a_116, w_116, a_117, w_117, a_118, w_118, a_119, w_119, a_120, w_120, a_121, w_121, a_122, w_122, a_123, w_123, a_124, w_124, s_ent8 (o := 94) rfl (show n - 1 - t < 8 by omega), s_ent8 (o := 94) rfl (show trnK l < 8 by omega), f3]
      rw [key _ (Nat.le_refl _), show (n : Int) - 1 - (othL l : Int) = (othJ l : Int) by omega]
      refine lp_last fun kc => ?_
      have c1 := vb (othJ l) (by omega)
      have nlt2 : ¬ D 94 (othJ l) < D 94 (trnK l) := fun q => q4 ((vlt _ _ (by omega) (by omega)).mp q)
      unfold BX7_nextTour_51 CX7_nextTour_51
      simp (disch := omega) only [J_add, J_sub, J_mul, J_lt, J_le, J_eq, xbr_true, xbr_false, xbr_pos, xbr_neg, Int.toNat_natCast, all_eq, ex_eq, t_0, q_0_0, q_0_1, q_0_2, q_0_3, q_0_4, q_0_5, q_0_6, q_0_7, q_0_8, q_0_9, i_0_10, p_0_10, i_0_11, p_0_11, i_0_12, p_0_12, t_1, q_1_0, t_3, q_3_0, q_3_1, i_3_2, p_3_2, i_3_3, p_3_3, t_80, q_80_0, t_88, q_88_0, t_90, q_90_0, t_92, q_92_0, q_92_1, q_92_2, i_92_3, p_92_3, i_92_4, p_92_4, t_96, q_96_0, i_96_1, p_96_1, i_96_2, p_96_2, i_96_3, p_96_3, t_100, q_100_0, i_100_1, p_100_1, i_100_2, p_100_2, i_100_3, p_100_3, t_104, q_104_1, q_104_2, q_104_3, q_104_4, q_104_5, q_104_6, q_104_8, q_104_9, q_104_11, q_104_12, q_104_18, q_104_21, q_104_22, q_104_23, q_104_24, q_104_26, q_104_27, q_104_28, q_104_30, q_104_31, i_104_0, p_104_0, i_104_7, p_104_7, i_104_10, p_104_10, i_104_13, p_104_13, i_104_14, p_104_14, i_104_15, p_104_15, i_104_16, p_104_16, i_104_17, p_104_17, i_104_19, p_104_19, i_104_20, p_104_20, i_104_25, p_104_25, i_104_29, p_104_29, a_2, w_2, a_81, w_81, a_89, w_89, a_91, w_91, a_93, w_93, a_94, w_94, a_95, w_95, a_105, w_105, a_106, w_106, a_107, w_107, a_108, w_108, a_109, w_109, a_110, w_110, a_111, w_111, a_112, w_112, a_113, w_113, a_114, w_114, a_115, w_115, a_116, w_116, a_117, w_117, a_118, w_118, a_119, w_119, a_120, w_120, a_121, w_121, a_122, w_122, a_123, w_123, a_124, w_124, s_ent8 (o := 94) rfl (show othJ l < 8 by omega), s_ent8 (o := 94) rfl (show trnK l < 8 by omega)]
      unfold JX7_nextTour_81
      have e4 : (n : Int) - 1 = ((n - 1 : Nat) : Int) := by omega
      have u3 : up (up D 94 (trnK l) (D 94 (othJ l))) 94 (othJ l) (D 94 (trnK l)) 92 3 = n := by rw [up_ne (by omega), up_ne (by omega)]; exact hn
      simp (disch := omega) only [J_add, J_sub, J_mul, J_lt, J_le, J_eq, xbr_true, xbr_false, xbr_pos, xbr_neg, Int.toNat_natCast, all_eq, ex_eq, t_0, q_0_0, q_0_1, q_0_2, q_0_3, q_0_4, q_0_5, q_0_6, q_0_7, q_0_8, q_0_9, i_0_10, p_0_10, i_0_11, p_0_11, i_0_12, p_0_12, t_1, q_1_0, t_3, q_3_0, q_3_1, i_3_2, p_3_2, i_3_3, p_3_3, t_80, q_80_0, t_88, q_88_0, t_90, q_90_0, t_92, q_92_0, q_92_1, q_92_2, i_92_3, p_92_3, i_92_4, p_92_4, t_96, q_96_0, i_96_1, p_96_1, i_96_2, p_96_2, i_96_3, p_96_3, t_100, q_100_0, i_100_1, p_100_1, i_100_2, p_100_2, i_100_3, p_100_3, t_104, q_104_1, q_104_2, q_104_3, q_104_4, q_104_5, q_104_6, q_104_8, q_104_9, q_104_11, q_104_12, q_104_18, q_104_21, q_104_22, q_104_23, q_104_24, q_104_26, q_104_27, q_104_28, q_104_30, q_104_31, i_104_0, p_104_0, i_104_7, p_104_7, i_104_10, p_104_10, i_104_13, p_104_13, i_104_14, p_104_14, i_104_15, p_104_15, i_104_16, p_104_16, i_104_17, p_104_17, i_104_19, p_104_19, i_104_20, p_104_20, i_104_25, p_104_25, i_104_29, p_104_29, a_2, w_2, a_81, w_81, a_89, w_89, a_91, w_91, a_93, w_93, a_94, w_94, a_95, w_95, a_105, w_105, a_106, w_106, a_107, w_107, a_108, w_108, a_109, w_109, a_110, w_110, a_111, w_111, a_112, w_112, a_113, w_113, a_114, w_114, a_115, w_115, a_116, w_116, a_117, w_117, a_118, w_118, a_119, w_119, a_120, w_120, a_121, w_121, a_122, w_122, a_123, w_123, a_124, w_124, s_swap (show trnK l < 8 by omega) (show othJ l < 8 by omega), u3, e2, e4]
      exact s_rev 8 _ _ _ (by omega) (by omega) (by omega)
  · intro ht K
    rw [lp7]
    refine lp_last fun kc => ?_
    unfold BX7_nextTour_7 CX7_nextTour_7
    simp (disch := omega) only [J_add, J_sub, J_mul, J_lt, J_le, J_eq, xbr_true, xbr_false, xbr_pos, xbr_neg, Int.toNat_natCast, all_eq, ex_eq, t_0, q_0_0, q_0_1, q_0_2, q_0_3, q_0_4, q_0_5, q_0_6, q_0_7, q_0_8, q_0_9, i_0_10, p_0_10, i_0_11, p_0_11, i_0_12, p_0_12, t_1, q_1_0, t_3, q_3_0, q_3_1, i_3_2, p_3_2, i_3_3, p_3_3, t_80, q_80_0, t_88, q_88_0, t_90, q_90_0, t_92, q_92_0, q_92_1, q_92_2, i_92_3, p_92_3, i_92_4, p_92_4, t_96, q_96_0, i_96_1, p_96_1, i_96_2, p_96_2, i_96_3, p_96_3, t_100, q_100_0, i_100_1, p_100_1, i_100_2, p_100_2, i_100_3, p_100_3, t_104, q_104_1, q_104_2, q_104_3, q_104_4, q_104_5, q_104_6, q_104_8, q_104_9, q_104_11, q_104_12, q_104_18, q_104_21, q_104_22, q_104_23, q_104_24, q_104_26, q_104_27, q_104_28, q_104_30, q_104_31, i_104_0, p_104_0, i_104_7, p_104_7, i_104_10, p_104_10, i_104_13, p_104_13, i_104_14, p_104_14, i_104_15, p_104_15, i_104_16, p_104_16, i_104_17, p_104_17, i_104_19, p_104_19, i_104_20, p_104_20, i_104_25, p_104_25, i_104_29, p_104_29, a_2, w_2, a_81, w_81, a_89, w_89, a_91, w_91, a_93, w_93, a_94, w_94, a_95, w_95, a_105, w_105, a_106, w_106, a_107, w_107, a_108, w_108, a_109, w_109, a_110, w_110, a_111, w_111, a_112, w_112, a_113, w_113, a_114, w_114, a_115, w_115, a_116, w_116, a_117, w_117, a_118, w_118, a_119, w_119, a_120, w_120, a_121, w_121, a_122, w_122, a_123, w_123, a_124, w_124]
    unfold JX7_nextTour_38
    simp (disch := omega) only [J_add, J_sub, J_mul, J_lt, J_le, J_eq, xbr_true, xbr_false, xbr_pos, xbr_neg, Int.toNat_natCast, all_eq, ex_eq, isB0, true_and]
theorem m_nextRow (hT : TaI n τ) (h : TrI D 120 n τ l) (hn : D 104 25 = n) : (turnL l < n - 1 → ∃ D' : Nat → Nat → Int, (∀ a, a ≠ 120 → D' a = D a) ∧ TrI D' 120 n τ (nxtL l) ∧ ∀ K, PX11_nextRow (ad z 104) (lay z g D) K = K (J 1) (lay z g D')) ∧ (¬ turnL l < n - 1 → ∀ K, PX11_nextRow (ad z 104) (lay z g D) K = K (J 0) (lay z g D)) := by
  obtain ⟨h1, h2, h3⟩ := h
  have n5 := hT.1
  have vb : ∀ i, i < n → 0 ≤ D 120 i ∧ D 120 i < 8 := fun i hi => by
    have := hT.2.2 _ (h2 i hi)
    rw [h3 i hi]; omega
  have vlt : ∀ i j, i < n → j < n → (D 120 i < D 120 j ↔ l.getD i 0 < l.getD j 0) := fun i j hi hj => by
    rw [h3 i hi, h3 j hj, ← hT.lt (h2 i hi) (h2 j hj)]
    omega
  have tl : turnL l ≤ n - 1 := by have := fst1_le (l.length - 1) (fun t => !decide (l.getD (l.length - 1 - t) 0 < l.getD (l.length - 2 - t) 0)); unfold turnL; omega
  have lp7 : ∀ K, PX11_nextRow (ad z 104) (lay z g D) K = lp (BX11_nextRow_7 K (lay z g D) (ad z 104)) (J ((n : Int) - 2 - (turnL l : Int))) := fun K => by
    have key : ∀ t, t ≤ turnL l → lp (BX11_nextRow_7 K (lay z g D) (ad z 104)) (J ((n : Int) - 2)) = lp (BX11_nextRow_7 K (lay z g D) (ad z 104)) (J ((n : Int) - 2 - (t : Int))) := by
      intro t
      induction t with
      | zero => intro _; rw [show (n : Int) - 2 - ((0 : Nat) : Int) = (n : Int) - 2 by omega]
      | succ t ih =>
        intro ht
        rw [ih (by omega)]
        obtain ⟨p1, p2⟩ := turn_lt h1 (show t < turnL l by omega)
        have e1 : (n : Int) - 2 - (t : Int) = ((n - 2 - t : Nat) : Int) := by omega
        have e2 : ((n - 2 - t : Nat) : Int) + 1 = ((n - 2 - t + 1 : Nat) : Int) := by omega
        have e3 : ((n - 2 - t : Nat) : Int) + -1 = (n : Int) - 2 - ((t + 1 : Nat) : Int) := by omega
        rw [e1]
        have b1 := vb (n - 2 - t) (by omega)
        have b2 := vb (n - 2 - t + 1) (by omega)
        have lt := (vlt (n - 2 - t + 1) (n - 2 - t) (by omega) (by omega)).mpr p2
        refine lp_step fun kc => ?_
        unfold BX11_nextRow_7 CX11_nextRow_7
        simp (disch := omega) only [J_add, J_sub, J_mul, J_lt, J_le, J_eq, xbr_true, xbr_false, xbr_pos, xbr_neg, Int.toNat_natCast, all_eq, ex_eq, t_0, q_0_0, q_0_1, q_0_2, q_0_3, q_0_4, q_0_5, q_0_6, q_0_7, q_0_8, q_0_9, i_0_10, p_0_10, i_0_11, p_0_11, i_0_12, p_0_12, t_1, q_1_0, t_3, q_3_0, q_3_1, i_3_2, p_3_2, i_3_3, p_3_3, t_80, q_80_0, t_88, q_88_0, t_90, q_90_0, t_92, q_92_0, q_92_1, q_92_2, i_92_3, p_92_3, i_92_4, p_92_4, t_96, q_96_0, i_96_1, p_96_1, i_96_2, p_96_2, i_96_3, p_96_3, t_100, q_100_0, i_100_1, p_100_1, i_100_2, p_100_2, i_100_3, p_100_3, t_104, q_104_1, q_104_2, q_104_3, q_104_4, q_104_5, q_104_6, q_104_8, q_104_9, q_104_11, q_104_12, q_104_18, q_104_21, q_104_22, q_104_23, q_104_24, q_104_26, q_104_27, q_104_28, q_104_30, q_104_31, i_104_0, p_104_0, i_104_7, p_104_7, i_104_10, p_104_10, i_104_13, p_104_13, i_104_14, p_104_14, i_104_15, p_104_15, i_104_16, p_104_16, i_104_17, p_104_17, i_104_19, p_104_19, i_104_20, p_104_20, i_104_25, p_104_25, i_104_29, p_104_29, a_2, w_2, a_81, w_81, a_89, w_89, a_91, w_91, a_93, w_93, a_94, w_94, a_95, w_95, a_105, w_105, a_106, w_106, a_107, w_107, a_108, w_108, a_109, w_109, a_110, w_110, a_111, w_111, a_112, w_112, a_113, w_113, a_114, w_114, a_115, w_115, a_116, w_116, a_117, w_117, a_118, w_118, a_119, w_119, a_120, w_120, a_121, w_121, a_122, w_122, a_123, w_123, a_124, w_124, e2, e3]
    unfold PX11_nextRow
    simp (disch := omega) only [J_add, J_sub, J_mul, J_lt, J_le, J_eq, xbr_true, xbr_false, xbr_pos, xbr_neg, Int.toNat_natCast, all_eq, ex_eq, t_0, q_0_0, q_0_1, q_0_2, q_0_3, q_0_4, q_0_5, q_0_6, q_0_7, q_0_8, q_0_9, i_0_10, p_0_10, i_0_11, p_0_11, i_0_12, p_0_12, t_1, q_1_0, t_3, q_3_0, q_3_1, i_3_2, p_3_2, i_3_3, p_3_3, t_80, q_80_0, t_88, q_88_0, t_90, q_90_0, t_92, q_92_0, q_92_1, q_92_2, i_92_3, p_92_3, i_92_4, p_92_4, t_96, q_96_0, i_96_1, p_96_1, i_96_2, p_96_2, i_96_3, p_96_3, t_100, q_100_0, i_100_1, p_100_1, i_100_2, p_100_2, i_100_3, p_100_3, t_104, q_104_1, q_104_2, q_104_3, q_104_4, q_104_5, q_104_6, q_104_8, q_104_9, q_104_11, q_104_12, q_104_18, q_104_21, q_104_22, q_104_23, q_104_24, q_104_26, q_104_27, q_104_28, q_104_30, q_104_31, i_104_0, p_104_0, i_104_7, p_104_7, i_104_10, p_104_10, i_104_13, p_104_13, i_104_14, p_104_14, i_104_15, p_104_15, i_104_16, p_104_16, i_104_17, p_104_17, i_104_19, p_104_19, i_104_20, p_104_20, i_104_25, p_104_25, i_104_29, p_104_29, a_2, w_2, a_81, w_81, a_89, w_89, a_91, w_91, a_93, w_93, a_94, w_94, a_95, w_95, a_105, w_105, a_106, w_106, a_107, w_107, a_108, w_108, a_109, w_109, a_110, w_110, a_111, w_111, a_112, w_112, a_113, w_113, a_114, w_114, a_115, w_115, a_116, w_116, a_117, w_117, a_118, w_118, a_119, w_119, a_120, w_120, a_121, w_121, a_122, w_122, a_123, w_123, a_124, w_124, hn]
    exact key _ (Nat.le_refl _)
  constructor
  · intro ht
    obtain ⟨p1, p2, p3⟩ := turn_at h1 ht
    obtain ⟨q1, q2, q3, q4⟩ := oth_at h1 ht
    refine ⟨_, fun a ha => ?_, TrI.next ⟨h1, h2, h3⟩ ht q1 q2, fun K => ?_⟩
    · rw [rvC_ne ha, up_ne ha, up_ne ha]
    · rw [lp7]
      have e1 : (n : Int) - 2 - (turnL l : Int) = (trnK l : Int) := by omega
      have e2 : (trnK l : Int) + 1 = ((trnK l + 1 : Nat) : Int) := by omega
      have b1 := vb (trnK l) (by omega)
      have b2 := vb (trnK l + 1) (by omega)
      have nlt : ¬ D 120 (trnK l + 1) < D 120 (trnK l) := fun q => p3 ((vlt _ _ (by omega) (by omega)).mp q)
      rw [e1]
      refine lp_last fun kc => ?_
      unfold BX11_nextRow_7 CX11_nextRow_7
      simp (disch := omega) only [J_add, J_sub, J_mul, J_lt, J_le, J_eq, xbr_true, xbr_false, xbr_pos, xbr_neg, Int.toNat_natCast, all_eq, ex_eq, t_0, q_0_0, q_0_1, q_0_2, q_0_3, q_0_4, q_0_5, q_0_6, q_0_7, q_0_8, q_0_9, i_0_10, p_0_10, i_0_11, p_0_11, i_0_12, p_0_12, t_1, q_1_0, t_3, q_3_0, q_3_1, i_3_2, p_3_2, i_3_3, p_3_3, t_80, q_80_0, t_88, q_88_0, t_90, q_90_0, t_92, q_92_0, q_92_1, q_92_2, i_92_3, p_92_3, i_92_4, p_92_4, t_96, q_96_0, i_96_1, p_96_1, i_96_2, p_96_2, i_96_3, p_96_3, t_100, q_100_0, i_100_1, p_100_1, i_100_2, p_100_2, i_100_3, p_100_3, t_104, q_104_1, q_104_2, q_104_3, q_104_4, q_104_5, q_104_6, q_104_8, q_104_9, q_104_11, q_104_12, q_104_18, q_104_21, q_104_22, q_104_23, q_104_24, q_104_26, q_104_27, q_104_28, q_104_30, q_104_31, i_104_0, p_104_0, i_104_7, p_104_7, i_104_10, p_104_10, i_104_13, p_104_13, i_104_14, p_104_14, i_104_15, p_104_15, i_104_16, p_104_16, i_104_17, p_104_17, i_104_19, p_104_19, i_104_20, p_104_20, i_104_25, p_104_25, i_104_29, p_104_29, a_2, w_2, a_81, w_81, a_89, w_89, a_91, w_91, a_93, w_93, a_94, w_94, a_95, w_95, a_105, w_105, a_106, w_106, a_107, w_107, a_108, w_108, a_109, w_109, a_110, w_110, a_111, w_111, a_112, w_112, a_113, w_113, a_114, w_114, a_115, w_115, a_116, w_116, a_117, w_117, a_118, w_118, a_119, w_119, a_120, w_120, a_121, w_121, a_122, w_122, a_123, w_123, a_124, w_124, e2]
      unfold JX11_nextRow_34
      simp (disch := omega) only [J_add, J_sub, J_mul, J_lt, J_le, J_eq, xbr_true, xbr_false, xbr_pos, xbr_neg, Int.toNat_natCast, all_eq, ex_eq, t_0, q_0_0, q_0_1, q_0_2, q_0_3, q_0_4, q_0_5, q_0_6, q_0_7, q_0_8, q_0_9, i_0_10, p_0_10, i_0_11, p_0_11, i_0_12, p_0_12, t_1, q_1_0, t_3, q_3_0, q_3_1, i_3_2, p_3_2, i_3_3, p_3_3, t_80, q_80_0, t_88, q_88_0, t_90, q_90_0, t_92, q_92_0, q_92_1, q_92_2, i_92_3, p_92_3, i_92_4, p_92_4, t_96, q_96_0, i_96_1, p_96_1, i_96_2, p_96_2, i_96_3, p_96_3, t_100, q_100_0, i_100_1, p_100_1, i_100_2, p_100_2, i_100_3, p_100_3, t_104, q_104_1, q_104_2, q_104_3, q_104_4, q_104_5, q_104_6, q_104_8, q_104_9, q_104_11, q_104_12, q_104_18, q_104_21, q_104_22, q_104_23, q_104_24, q_104_26, q_104_27, q_104_28, q_104_30, q_104_31, i_104_0, p_104_0, i_104_7, p_104_7, i_104_10, p_104_10, i_104_13, p_104_13, i_104_14, p_104_14, i_104_15, p_104_15, i_104_16, p_104_16, i_104_17, p_104_17, i_104_19, p_104_19, i_104_20, p_104_20, i_104_25, p_104_25, i_104_29, p_104_29, a_2, w_2, a_81, w_81, a_89, w_89, a_91, w_91, a_93, w_93, a_94, w_94, a_95, w_95, a_105, w_105, a_106, w_106, a_107, w_107, a_108, w_108, a_109, w_109, a_110, w_110, a_111, w_111, a_112, w_112, a_113, w_113, a_114, w_114, a_115, w_115, a_116, w_116, a_117, w_117, a_118, w_118, a_119, w_119, a_120, w_120, a_121, w_121, a_122, w_122, a_123, w_123, a_124, w_124, hn]
      have key : ∀ t, t ≤ othL l → lp (BX11_nextRow_47 K (lay z g D) (ad z 104) (J (trnK l : Nat))) (J ((n : Int) - 1)) = lp (BX11_nextRow_47 K (lay z g D) (ad z 104) (J (trnK l : Nat))) (J ((n : Int) - 1 - (t : Int))) := by
        intro t
        induction t with
        | zero => intro _; rw [show (n : Int) - 1 - ((0 : Nat) : Int) = (n : Int) - 1 by omega]
        | succ t ih =>
          intro ht'
          rw [ih (by omega)]
          have p5 := oth_lt h1 (show t < othL l by omega)
          have f1 : (n : Int) - 1 - (t : Int) = ((n - 1 - t : Nat) : Int) := by omega
          have f3 : ((n - 1 - t : Nat) : Int) + -1 = (n : Int) - 1 - ((t + 1 : Nat) : Int) := by omega
          rw [f1]
          have c1 := vb (n - 1 - t) (by omega)
          have lt := (vlt (n - 1 - t) (trnK l) (by omega) (by omega)).mpr p5
          refine lp_step fun kc => ?_
          unfold BX11_nextRow_47 CX11_nextRow_47
          simp (disch := omega) only [J_add, J_sub, J_mul, J_lt, J_le, J_eq, xbr_true, xbr_false, xbr_pos, xbr_neg, Int.toNat_natCast, all_eq, ex_eq, t_0, q_0_0, q_0_1, q_0_2, q_0_3, q_0_4, q_0_5, q_0_6, q_0_7, q_0_8, q_0_9, i_0_10, p_0_10, i_0_11, p_0_11, i_0_12, p_0_12, t_1, q_1_0, t_3, q_3_0, q_3_1, i_3_2, p_3_2, i_3_3, p_3_3, t_80, q_80_0, t_88, q_88_0, t_90, q_90_0, t_92, q_92_0, q_92_1, q_92_2, i_92_3, p_92_3, i_92_4, p_92_4, t_96, q_96_0, i_96_1, p_96_1, i_96_2, p_96_2, i_96_3, p_96_3, t_100, q_100_0, i_100_1, p_100_1, i_100_2, p_100_2, i_100_3, p_100_3, t_104, q_104_1, q_104_2, q_104_3, q_104_4, q_104_5, q_104_6, q_104_8, q_104_9, q_104_11, q_104_12, q_104_18, q_104_21, q_104_22, q_104_23, q_104_24, q_104_26, q_104_27, q_104_28, q_104_30, q_104_31, i_104_0, p_104_0, i_104_7, p_104_7, i_104_10, p_104_10, i_104_13, p_104_13, i_104_14, p_104_14, i_104_15, p_104_15, i_104_16, p_104_16, i_104_17, p_104_17, i_104_19, p_104_19, i_104_20, p_104_20, i_104_25, p_104_25, i_104_29, p_104_29, a_2, w_2, a_81, w_81, a_89, w_89, a_91, w_91, a_93, w_93, a_94, w_94, a_95, w_95, a_105, w_105, a_106, w_106, a_107, w_107, a_108, w_108, a_109, w_109, a_110, w_110, a_111, w_111, a_112, w_112, a_113, w_113, a_114, w_114, a_115, w_115, a_116, w_116, a_117, w_117, a_118, w_118, a_119, w_119, a_120, w_120, a_121, w_121, a_122, w_122, a_123, w_123, a_124, w_124, f3]
      rw [key _ (Nat.le_refl _), show (n : Int) - 1 - (othL l : Int) = (othJ l : Int) by omega]
      refine lp_last fun kc => ?_
      have c1 := vb (othJ l) (by omega)
      have nlt2 : ¬ D 120 (othJ l) < D 120 (trnK l) := fun q => q4 ((vlt _ _ (by omega) (by omega)).mp q)
      have e4 : (n : Int) - 1 = ((n - 1 : Nat) : Int) := by omega
      have u3 : up (up D 120 (trnK l) (D 120 (othJ l))) 120 (othJ l) (D 120 (trnK l)) 104 25 = n := by rw [up_ne (by omega), up_ne (by omega)]; exact hn
      unfold BX11_nextRow_47 CX11_nextRow_47
      simp (disch := omega) only [J_add, J_sub, J_mul, J_lt, J_le, J_eq, xbr_true, xbr_false, xbr_pos, xbr_neg, Int.toNat_natCast, all_eq, ex_eq, t_0, q_0_0, q_0_1, q_0_2, q_0_3, q_0_4, q_0_5, q_0_6, q_0_7, q_0_8, q_0_9, i_0_10, p_0_10, i_0_11, p_0_11, i_0_12, p_0_12, t_1, q_1_0, t_3, q_3_0, q_3_1, i_3_2, p_3_2, i_3_3, p_3_3, t_80, q_80_0, t_88, q_88_0, t_90, q_90_0, t_92, q_92_0, q_92_1, q_92_2, i_92_3, p_92_3, i_92_4, p_92_4, t_96, q_96_0, i_96_1, p_96_1, i_96_2, p_96_2, i_96_3, p_96_3, t_100, q_100_0, i_100_1, p_100_1, i_100_2, p_100_2, i_100_3, p_100_3, t_104, q_104_1, q_104_2, q_104_3, q_104_4, q_104_5, q_104_6, q_104_8, q_104_9, q_104_11, q_104_12, q_104_18, q_104_21, q_104_22, q_104_23, q_104_24, q_104_26, q_104_27, q_104_28, q_104_30, q_104_31, i_104_0, p_104_0, i_104_7, p_104_7, i_104_10, p_104_10, i_104_13, p_104_13, i_104_14, p_104_14, i_104_15, p_104_15, i_104_16, p_104_16, i_104_17, p_104_17, i_104_19, p_104_19, i_104_20, p_104_20, i_104_25, p_104_25, i_104_29, p_104_29, a_2, w_2, a_81, w_81, a_89, w_89, a_91, w_91, a_93, w_93, a_94, w_94, a_95, w_95, a_105, w_105, a_106, w_106, a_107, w_107, a_108, w_108, a_109, w_109, a_110, w_110, a_111, w_111, a_112, w_112, a_113, w_113, a_114, w_114, a_115, w_115, a_116, w_116, a_117, w_117, a_118, w_118, a_119, w_119, a_120, w_120, a_121, w_121, a_122, w_122, a_123, w_123, a_124, w_124, u3, e2, e4]
      exact m_rev 8 _ _ _ (by omega) (by omega) (by omega)
  · intro ht K
    rw [lp7]
    refine lp_last fun kc => ?_
    unfold BX11_nextRow_7 CX11_nextRow_7
    simp (disch := omega) only [J_add, J_sub, J_mul, J_lt, J_le, J_eq, xbr_true, xbr_false, xbr_pos, xbr_neg, Int.toNat_natCast, all_eq, ex_eq, t_0, q_0_0, q_0_1, q_0_2, q_0_3, q_0_4, q_0_5, q_0_6, q_0_7, q_0_8, q_0_9, i_0_10, p_0_10, i_0_11, p_0_11, i_0_12, p_0_12, t_1, q_1_0, t_3, q_3_0, q_3_1, i_3_2, p_3_2, i_3_3, p_3_3, t_80, q_80_0, t_88, q_88_0, t_90, q_90_0, t_92, q_92_0, q_92_1, q_92_2, i_92_3, p_92_3, i_92_4, p_92_4, t_96, q_96_0, i_96_1, p_96_1, i_96_2, p_96_2, i_96_3, p_96_3, t_100, q_100_0, i_100_1, p_100_1, i_100_2, p_100_2, i_100_3, p_100_3, t_104, q_104_1, q_104_2, q_104_3, q_104_4, q_104_5, q_104_6, q_104_8, q_104_9, q_104_11, q_104_12, q_104_18, q_104_21, q_104_22, q_104_23, q_104_24, q_104_26, q_104_27, q_104_28, q_104_30, q_104_31, i_104_0, p_104_0, i_104_7, p_104_7, i_104_10, p_104_10, i_104_13, p_104_13, i_104_14, p_104_14, i_104_15, p_104_15, i_104_16, p_104_16, i_104_17, p_104_17, i_104_19, p_104_19, i_104_20, p_104_20, i_104_25, p_104_25, i_104_29, p_104_29, a_2, w_2, a_81, w_81, a_89, w_89, a_91, w_91, a_93, w_93, a_94, w_94, a_95, w_95, a_105, w_105, a_106, w_106, a_107, w_107, a_108, w_108, a_109, w_109, a_110, w_110, a_111, w_111, a_112, w_112, a_113, w_113, a_114, w_114, a_115, w_115, a_116, w_116, a_117, w_117, a_118, w_118, a_119, w_119, a_120, w_120, a_121, w_121, a_122, w_122, a_123, w_123, a_124, w_124]
    unfold JX11_nextRow_34
    simp (disch := omega) only [J_add, J_sub, J_mul, J_lt, J_le, J_eq, xbr_true, xbr_false, xbr_pos, xbr_neg, Int.toNat_natCast, all_eq, ex_eq, isB0, true_and]
end PRM
