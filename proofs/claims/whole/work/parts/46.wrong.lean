/-! out of place: the fewest to take out so that the rest are in order -/
def may (C : Nat → Nat → Int) (A : Rw) (l i : Nat) : Bool := decide (l = 24) || aheadC C (A.2.1 l) (A.2.1 i) 0
def kpN (C : Nat → Nat → Int) (A : Rw) : Nat → Nat → Nat
  | 0, _ => 0
  | d + 1, l => max (kpN C A d l) (if may C A l (A.1 - 1 - d) then 1 + kpN C A d (A.1 - 1 - d) else 0)
/-- the most that can stay from place i on behind place l (24: behind none) -/
def KP (C : Nat → Nat → Int) (A : Rw) (i l : Nat) : Nat := kpN C A (A.1 - i) l
def LL (C : Nat → Nat → Int) (A : Rw) (i : Nat) : Nat := 1 + KP C A (i + 1) i
theorem KP_end (C : Nat → Nat → Int) (A : Rw) {i l : Nat} (h : A.1 ≤ i) : KP C A i l = 0 := by
  unfold KP
  rw [show A.1 - i = 0 by omega]; rfl
theorem KP_step (C : Nat → Nat → Int) (A : Rw) {i l : Nat} (h : i < A.1) : KP C A i l = max (KP C A (i + 1) l) (if may C A l i then LL C A i else 0) := by
  unfold LL KP
  rw [show A.1 - i = (A.1 - (i + 1)) + 1 by omega]
  show max _ (if may C A l (A.1 - 1 - (A.1 - (i + 1))) then 1 + kpN C A (A.1 - (i + 1)) (A.1 - 1 - (A.1 - (i + 1))) else 0) = _
  rw [show A.1 - 1 - (A.1 - (i + 1)) = i by omega]
theorem kpN_le (C : Nat → Nat → Int) (A : Rw) (d l : Nat) : kpN C A d l ≤ d := by
  induction d generalizing l with
  | zero => exact Nat.le_refl _
  | succ d ih =>
    have h1 := ih l
    have h2 := ih (A.1 - 1 - d)
    show max (kpN C A d l) (if may C A l (A.1 - 1 - d) then 1 + kpN C A d (A.1 - 1 - d) else 0) ≤ d + 1
    split <;> omega
theorem KP_le (C : Nat → Nat → Int) (A : Rw) (i l : Nat) : KP C A i l ≤ A.1 := by
  have := kpN_le C A (A.1 - i) l
  unfold KP; omega
def bhd (C : Nat → Nat → Int) (A : Rw) (i : Nat) : Nat → Nat
  | 0 => 0
  | k + 1 => if i < k ∧ aheadC C (A.2.1 i) (A.2.1 k) 0 = true then max (bhd C A i k) (LL C A k) else bhd C A i k
theorem bhd_lo (C : Nat → Nat → Int) (A : Rw) {i k : Nat} (h : k ≤ i + 1) : bhd C A i k = 0 := by
  induction k with
  | zero => rfl
  | succ k ih =>
    show (if i < k ∧ _ then _ else bhd C A i k) = 0
    rw [if_neg (by omega)]; exact ih (by omega)
theorem bhd_KP (C : Nat → Nat → Int) (A : Rw) {i : Nat} (hi : i < 24) {k : Nat} (h : i + 1 ≤ k) (hk : k ≤ A.1) : max (bhd C A i k) (KP C A k i) = KP C A (i + 1) i := by
  obtain ⟨d, rfl⟩ : ∃ d, k = i + 1 + d := ⟨k - (i + 1), by omega⟩
  induction d with
  | zero => rw [bhd_lo C A (by omega)]; simp
  | succ d ih =>
    have h1 := ih (by omega) (by omega)
    rw [KP_step C A (i := i + 1 + d) (l := i) (by omega)] at h1
    show max (if i < i + 1 + d ∧ aheadC C (A.2.1 i) (A.2.1 (i + 1 + d)) 0 = true then max (bhd C A i (i + 1 + d)) (LL C A (i + 1 + d)) else bhd C A i (i + 1 + d)) (KP C A (i + 1 + d + 1) i) = _
    by_cases c : aheadC C (A.2.1 i) (A.2.1 (i + 1 + d)) 0 = true
    · rw [if_pos ⟨by omega, c⟩]
      rw [if_pos (by unfold may; simp [c])] at h1
      omega
    · rw [if_neg (fun q => c q.2)]
      rw [if_neg (by unfold may; simp [c]; omega)] at h1
      omega
theorem bhd_le (C : Nat → Nat → Int) (A : Rw) (i k : Nat) : bhd C A i k ≤ A.1 + 1 := by
  induction k with
  | zero => exact Nat.zero_le _
  | succ k ih =>
    have := KP_le C A (k + 1) k
    show (if i < k ∧ aheadC C (A.2.1 i) (A.2.1 k) 0 = true then max (bhd C A i k) (LL C A k) else bhd C A i k) ≤ _
    unfold LL
    split <;> omega
/-- the place that stays last before place i; 24: none -/
def lst (C : Nat → Nat → Int) (A : Rw) : Nat → Nat
  | 0 => 24
  | i + 1 => if may C A (lst C A i) i && LL C A i == KP C A i (lst C A i) then i else lst C A i
def stay (C : Nat → Nat → Int) (A : Rw) (i : Nat) : Bool := may C A (lst C A i) i && LL C A i == KP C A i (lst C A i)
theorem lst_s (C : Nat → Nat → Int) (A : Rw) (i : Nat) : lst C A (i + 1) = if stay C A i then i else lst C A i := rfl
theorem lst_b (C : Nat → Nat → Int) (A : Rw) (i : Nat) : lst C A i = 24 ∨ lst C A i < i := by
  induction i with
  | zero => exact Or.inl rfl
  | succ i ih =>
    rw [lst_s]
    split
    · right; omega
    · omega
theorem stay_KP (C : Nat → Nat → Int) (A : Rw) {i : Nat} (hi : i < A.1) : KP C A (i + 1) (lst C A (i + 1)) + (if stay C A i then 1 else 0) = KP C A i (lst C A i) := by
  rw [lst_s]
  by_cases c : stay C A i = true
  · rw [if_pos c, if_pos c]
    unfold stay at c
    simp only [Bool.and_eq_true, beq_iff_eq] at c
    have := c.2
    unfold LL at this
    omega
  · rw [if_neg c, if_neg c]
    have h := KP_step C A (i := i) (l := lst C A i) hi
    unfold stay at c
    simp only [Bool.and_eq_true, beq_iff_eq] at c
    by_cases c2 : may C A (lst C A i) i = true
    · rw [if_pos c2] at h
      have : ¬ LL C A i = KP C A i (lst C A i) := fun q => c ⟨c2, q⟩
      omega
    · rw [if_neg c2] at h
      omega
/-- the set of the places that don't stay -/
def outF (C : Nat → Nat → Int) (A : Rw) : Nat → Int32
  | 0 => J 0
  | i + 1 => if stay C A i then outF C A i else outF C A i ||| (J 1 <<< (J (A.2.1 i : Nat) &&& 31))
def outB (C : Nat → Nat → Int) (A : Rw) (b : Nat) : Bool := decide (idx A b < A.1) && !stay C A (idx A b)
theorem outF_orS (C : Nat → Nat → Int) {A : Rw} {nb : Nat} (hA : RwOk A nb) (hn : nb ≤ 24) : outF C A A.1 = orS 24 (outB C A) := by
  have key : ∀ m, m ≤ A.1 → ∀ i, i < 32 → bt (outF C A m) i = (decide (idx A i < m) && !stay C A (idx A i)) := by
    intro m
    induction m with
    | zero => intro _ i hi; simp [outF, bt_J0]
    | succ m ih =>
      intro hm i hi
      have h1 := hA.1 m (by omega)
      show bt (if stay C A m then outF C A m else outF C A m ||| _) i = _
      by_cases c : i = A.2.1 m
      · have e : idx A i = m := by rw [c]; exact idx_of hA (by omega)
        by_cases c2 : stay C A m = true
        · rw [if_pos c2, ih (by omega) i hi, e]
          simp [c2]
        · rw [if_neg c2, b_or, ih (by omega) i hi, bt_one _ (by omega) i hi, e]
          simp [c, c2]
      · have e : idx A i ≠ m := fun q => c (by rw [← q]; exact (idx_at (by omega)).symm)
        have e2 : decide (idx A i < m + 1) = decide (idx A i < m) := by
          rw [decide_eq_decide]; omega
        by_cases c2 : stay C A m = true
        · rw [if_pos c2, ih (by omega) i hi, e2]
        · rw [if_neg c2, b_or, ih (by omega) i hi, bt_one _ (by omega) i hi, e2]
          simp [c]
  refine b_ext fun i hi => ?_
  rw [key _ (Nat.le_refl _) i hi, bt_orS (by omega) hi]
  unfold outB
  by_cases c : idx A i < A.1
  · have := hA.1 _ c
    rw [idx_at c] at this
    simp [c, show i < 24 by omega]
  · simp [c]
def chC (C : Nat → Nat → Int) (A : Rw) (i : Nat) : Nat → Nat → Int := fun a j => if a = 89 ∧ i ≤ j ∧ j < A.1 then (LL C A j : Int) else C a j
theorem chC_ne {C : Nat → Nat → Int} {A : Rw} {i a : Nat} (h : a ≠ 89) : chC C A i a = C a := by
  funext j; unfold chC; rw [if_neg (fun q => h q.1)]
/-- the reference's counts: rows from d on, and the first l of row d - 1 -/
def kpC (C : Nat → Nat → Int) (A : Rw) (d l : Nat) : Nat → Nat → Int := fun a j => if a = 118 ∧ j < 25 * (A.1 + 1) ∧ (25 * d ≤ j ∨ (0 < d ∧ 25 * (d - 1) ≤ j ∧ j < 25 * (d - 1) + l)) then (if j % 25 = 24 ∨ j % 25 < j / 25 then (KP C A (j / 25) (j % 25) : Int) else 0) else C a j
theorem kpC_ne {C : Nat → Nat → Int} {A : Rw} {d l a : Nat} (h : a ≠ 118) : kpC C A d l a = C a := by
  funext j; unfold kpC; rw [if_neg (fun q => h q.1)]
theorem kpC_at {C : Nat → Nat → Int} {A : Rw} {d l i q : Nat} (hq : q < 25) (hi : d ≤ i) (hl : i ≤ A.1) (hu : q = 24 ∨ q < i) : kpC C A d l 118 (25 * i + q) = KP C A i q := by
  unfold kpC
  rw [if_pos ⟨rfl, by omega, Or.inl (by omega)⟩, show (25 * i + q) % 25 = q by omega, show (25 * i + q) / 25 = i by omega, if_pos hu]
theorem kpC_up {C : Nat → Nat → Int} {A : Rw} {i l : Nat} {v : Int} (hl : l < 25) (hi : i ≤ A.1) (hv : v = if l = 24 ∨ l < i then (KP C A i l : Int) else 0) : up (kpC C A (i + 1) l) 118 (25 * i + l) v = kpC C A (i + 1) (l + 1) := by
  funext a j
  unfold up kpC
  by_cases c : a = 118 ∧ j = 25 * i + l
  · rw [if_pos c, if_pos ⟨c.1, by omega, Or.inr (by omega)⟩, c.2, show (25 * i + l) % 25 = l by omega, show (25 * i + l) / 25 = i by omega, hv]
  · rw [if_neg c]
    by_cases c2 : a = 118 ∧ j < 25 * (A.1 + 1) ∧ (25 * (i + 1) ≤ j ∨ (0 < i + 1 ∧ 25 * (i + 1 - 1) ≤ j ∧ j < 25 * (i + 1 - 1) + l))
    · have c3 : a = 118 ∧ j < 25 * (A.1 + 1) ∧ (25 * (i + 1) ≤ j ∨ (0 < i + 1 ∧ 25 * (i + 1 - 1) ≤ j ∧ j < 25 * (i + 1 - 1) + (l + 1))) := ⟨c2.1, c2.2.1, by omega⟩
      simp only [if_pos c2, if_pos c3]
    · rw [if_neg c2, if_neg (fun q => c2 ⟨q.1, q.2.1, by have := q.2.2; omega⟩)]
theorem kpC_row {C : Nat → Nat → Int} {A : Rw} {d : Nat} (hd : 0 < d) : kpC C A d 25 = kpC C A (d - 1) 0 := by
  funext a j
  unfold kpC
  by_cases c : a = 118 ∧ j < 25 * (A.1 + 1) ∧ 25 * (d - 1) ≤ j
  · have c2 : a = 118 ∧ j < 25 * (A.1 + 1) ∧ (25 * d ≤ j ∨ (0 < d ∧ 25 * (d - 1) ≤ j ∧ j < 25 * (d - 1) + 25)) := ⟨c.1, c.2.1, by omega⟩
    have c3 : a = 118 ∧ j < 25 * (A.1 + 1) ∧ (25 * (d - 1) ≤ j ∨ (0 < d - 1 ∧ 25 * (d - 1 - 1) ≤ j ∧ j < 25 * (d - 1 - 1) + 0)) := ⟨c.1, c.2.1, Or.inl c.2.2⟩
    rw [if_pos c2, if_pos c3]
  · rw [if_neg (fun q => c ⟨q.1, q.2.1, by omega⟩), if_neg (fun q => c ⟨q.1, q.2.1, by omega⟩)]
section WRONG
variable {z : Nat} {g : Mem} {C C' : Nat → Nat → Int} {nb : Nat} {A A' : Rw}
theorem s_chains {K : Int32 → Mem → Prop} (k1 : RowC C 82 A) (k3 : RwOk A nb) (hn : nb ≤ 24) (hB : BooksOk C) : PX9_measureChains (ad z 88) (ad z 82) (ad z 3) (lay z g C) K = K (J (KP C A 0 24 : Nat)) (lay z g (chC C A 0)) := by
  have l24 := k1.len
  have kr : ∀ i, RowC (chC C A i) 82 A := fun i => k1.fr (chC_ne (by omega)) (chC_ne (by omega)) (chC_ne (by omega))
  have kB : ∀ i, BooksOk (chC C A i) := fun i => hB.fr (fun o _ _ => chC_ne (by omega))
  have ah : ∀ q i k, aheadC (chC C A q) i k 0 = aheadC C i k 0 := fun q i k => aheadC_congr (fun o _ _ => chC_ne (by omega))
  have KPl := fun i l => KP_le C A i l
  have e00 : chC C A A.1 = C := by
    funext a j; unfold chC; rw [if_neg (by omega)]
  have inner : ∀ (u3 : Int32) (kc10 : Mem × Int32 × Int32 → Prop) (i : Nat), i < A.1 → lp (BX9_measureChains_24 K kc10 (lay z g (chC C A (i + 1))) (ad z 88) (ad z 82) (ad z 3) u3 (J (i : Int))) (J 0, J ((i + 1 : Nat) : Int)) = kc10 (lay z g (chC C A i), (if u3 < J (LL C A i : Nat) then J (LL C A i : Nat) else u3), J ((i : Int) + -1)) := by
    intro u3 kc10 i hi
    have h00 : (J 0, J ((i + 1 : Nat) : Int)) = ((fun k : Nat => (J (bhd C A i k : Nat), J (k : Int))) (i + 1)) := by
      show _ = (J (bhd C A i (i + 1) : Nat), J ((i + 1 : Nat) : Int))
      rw [bhd_lo C A (by omega)]; rfl
    rw [h00]
    refine lp_for (fun k : Nat => (J (bhd C A i k : Nat), J (k : Int))) (i + 1) A.1 _ (by omega) ?_ ?_
    · intro k hk0 hk kc
      have b1 := bhd_le C A i k
      have bi := (kr (i + 1)).bk hi
      have bk := (kr (i + 1)).bk hk
      have n1 := k3.1 i hi
      have n2 := k3.1 k hk
      have hlen := (kr (i + 1)).1
      have e89 : chC C A (i + 1) 89 k = LL C A k := by unfold chC; rw [if_pos ⟨rfl, by omega, hk⟩]
      have hLL : LL C A k ≤ 25 := by have := KPl (k + 1) k; unfold LL; omega
      unfold BX9_measureChains_24 CX9_measureChains_24
      simp (disch := omega) only [J_add, J_sub, J_mul, J_lt, J_le, J_eq, xbr_true, xbr_false, xbr_pos, xbr_neg, Int.toNat_natCast, all_eq, ex_eq, t_0, q_0_0, q_0_1, q_0_2, q_0_3, q_0_4, q_0_5, q_0_6, q_0_7, q_0_8, q_0_9, i_0_10, p_0_10, i_0_11, p_0_11, i_0_12, p_0_12, t_1, q_1_0, t_3, q_3_0, q_3_1, i_3_2, p_3_2, i_3_3, p_3_3, t_80, q_80_0, t_88, q_88_0, t_90, q_90_0, t_92, q_92_0, q_92_1, q_92_2, i_92_3, p_92_3, i_92_4, p_92_4, t_96, q_96_0, i_96_1, p_96_1, i_96_2, p_96_2, i_96_3, p_96_3, t_100, q_100_0, i_100_1, p_100_1, i_100_2, p_100_2, i_100_3, p_100_3, t_104, q_104_1, q_104_2, q_104_3, q_104_4, q_104_5, q_104_6, q_104_8, q_104_9, q_104_11, q_104_12, q_104_18, q_104_21, q_104_22, q_104_23, q_104_24, q_104_26, q_104_27, q_104_28, q_104_30, q_104_31, i_104_0, p_104_0, i_104_7, p_104_7, i_104_10, p_104_10, i_104_13, p_104_13, i_104_14, p_104_14, i_104_15, p_104_15, i_104_16, p_104_16, i_104_17, p_104_17, i_104_19, p_104_19, i_104_20, p_104_20, i_104_25, p_104_25, i_104_29, p_104_29, a_2, w_2, a_81, w_81, a_89, w_89, a_91, w_91, a_93, w_93, a_94, w_94, a_95, w_95, a_105, w_105, a_106, w_106, a_107, w_107, a_108, w_108, a_109, w_109, a_110, w_110, a_111, w_111, a_112, w_112, a_113, w_113, a_114, w_114, a_115, w_115, a_116, w_116, a_117, w_117, a_118, w_118, a_119, w_119, a_120, w_120, a_121, w_121, a_122, w_122, a_123, w_123, a_124, w_124, s_size r82, hlen, s_bookAt r82 (kr (i + 1)).2.2.2.2, bi, bk, s_isAhead (kB (i + 1)), ah, s_entry (o := 89) (N := 24) rfl]
      have e5 : (0 ≤ (k : Int) ∧ (k : Int) < ((24 : Nat) : Int)) := by omega
      by_cases c : aheadC C (A.2.1 i) (A.2.1 k) 0 = true
      · simp only [if_pos c]
        simp (disch := omega) only [J_add, J_sub, J_mul, J_lt, J_le, J_eq, xbr_true, xbr_false, xbr_pos, xbr_neg, Int.toNat_natCast, all_eq, ex_eq, if_pos e5, e89]
        have e6 : bhd C A i (k + 1) = max (bhd C A i k) (LL C A k) := by
          show (if i < k ∧ _ then _ else _) = _
          rw [if_pos ⟨by omega, c⟩]
        rw [e6]
        by_cases c2 : bhd C A i k < LL C A k
        · rw [if_pos (by omega), Nat.max_eq_right (by omega)]; rfl
        · rw [if_neg (by omega), Nat.max_eq_left (by omega)]; rfl
      · simp only [if_neg c]
        simp (disch := omega) only [J_add, J_sub, J_mul, J_lt, J_le, J_eq, xbr_true, xbr_false, xbr_pos, xbr_neg, Int.toNat_natCast, all_eq, ex_eq]
        have e6 : bhd C A i (k + 1) = bhd C A i k := by
          show (if i < k ∧ _ then _ else _) = _
          rw [if_neg (fun q => c q.2)]
        rw [e6]; rfl
    · intro kc
      have b1 := bhd_le C A i A.1
      have hlen := (kr (i + 1)).1
      have e1 := bhd_KP C A (i := i) (by omega) (k := A.1) (by omega) (Nat.le_refl _)
      rw [KP_end C A (Nat.le_refl _), Nat.max_eq_left (Nat.zero_le _)] at e1
      unfold BX9_measureChains_24 CX9_measureChains_24
      simp (disch := omega) only [J_add, J_sub, J_mul, J_lt, J_le, J_eq, xbr_true, xbr_false, xbr_pos, xbr_neg, Int.toNat_natCast, all_eq, ex_eq, t_0, q_0_0, q_0_1, q_0_2, q_0_3, q_0_4, q_0_5, q_0_6, q_0_7, q_0_8, q_0_9, i_0_10, p_0_10, i_0_11, p_0_11, i_0_12, p_0_12, t_1, q_1_0, t_3, q_3_0, q_3_1, i_3_2, p_3_2, i_3_3, p_3_3, t_80, q_80_0, t_88, q_88_0, t_90, q_90_0, t_92, q_92_0, q_92_1, q_92_2, i_92_3, p_92_3, i_92_4, p_92_4, t_96, q_96_0, i_96_1, p_96_1, i_96_2, p_96_2, i_96_3, p_96_3, t_100, q_100_0, i_100_1, p_100_1, i_100_2, p_100_2, i_100_3, p_100_3, t_104, q_104_1, q_104_2, q_104_3, q_104_4, q_104_5, q_104_6, q_104_8, q_104_9, q_104_11, q_104_12, q_104_18, q_104_21, q_104_22, q_104_23, q_104_24, q_104_26, q_104_27, q_104_28, q_104_30, q_104_31, i_104_0, p_104_0, i_104_7, p_104_7, i_104_10, p_104_10, i_104_13, p_104_13, i_104_14, p_104_14, i_104_15, p_104_15, i_104_16, p_104_16, i_104_17, p_104_17, i_104_19, p_104_19, i_104_20, p_104_20, i_104_25, p_104_25, i_104_29, p_104_29, a_2, w_2, a_81, w_81, a_89, w_89, a_91, w_91, a_93, w_93, a_94, w_94, a_95, w_95, a_105, w_105, a_106, w_106, a_107, w_107, a_108, w_108, a_109, w_109, a_110, w_110, a_111, w_111, a_112, w_112, a_113, w_113, a_114, w_114, a_115, w_115, a_116, w_116, a_117, w_117, a_118, w_118, a_119, w_119, a_120, w_120, a_121, w_121, a_122, w_122, a_123, w_123, a_124, w_124, s_size r82, hlen, s_write (o := 89) (N := 24) rfl]
      rw [if_pos (by omega), e1]
      have e2 : ((KP C A (i + 1) i : Nat) : Int) + 1 = (LL C A i : Nat) := by unfold LL; omega
      rw [e2]
      have e3 : up (chC C A (i + 1)) 89 i (LL C A i : Nat) = chC C A i := by
        funext a j
        unfold up chC
        by_cases c : a = 89 ∧ j = i
        · rw [if_pos c, if_pos ⟨c.1, by omega, by omega⟩, c.2]
        · rw [if_neg c]
          by_cases c2 : a = 89 ∧ i + 1 ≤ j ∧ j < A.1
          · rw [if_pos c2, if_pos ⟨c2.1, by omega, c2.2.2⟩]
          · rw [if_neg c2, if_neg (fun q => c2 ⟨q.1, by omega, q.2.2⟩)]
      rw [e3]
  have hlen := k1.1
  unfold PX9_measureChains
  simp (disch := omega) only [J_add, J_sub, J_mul, J_lt, J_le, J_eq, xbr_true, xbr_false, xbr_pos, xbr_neg, Int.toNat_natCast, all_eq, ex_eq, t_0, q_0_0, q_0_1, q_0_2, q_0_3, q_0_4, q_0_5, q_0_6, q_0_7, q_0_8, q_0_9, i_0_10, p_0_10, i_0_11, p_0_11, i_0_12, p_0_12, t_1, q_1_0, t_3, q_3_0, q_3_1, i_3_2, p_3_2, i_3_3, p_3_3, t_80, q_80_0, t_88, q_88_0, t_90, q_90_0, t_92, q_92_0, q_92_1, q_92_2, i_92_3, p_92_3, i_92_4, p_92_4, t_96, q_96_0, i_96_1, p_96_1, i_96_2, p_96_2, i_96_3, p_96_3, t_100, q_100_0, i_100_1, p_100_1, i_100_2, p_100_2, i_100_3, p_100_3, t_104, q_104_1, q_104_2, q_104_3, q_104_4, q_104_5, q_104_6, q_104_8, q_104_9, q_104_11, q_104_12, q_104_18, q_104_21, q_104_22, q_104_23, q_104_24, q_104_26, q_104_27, q_104_28, q_104_30, q_104_31, i_104_0, p_104_0, i_104_7, p_104_7, i_104_10, p_104_10, i_104_13, p_104_13, i_104_14, p_104_14, i_104_15, p_104_15, i_104_16, p_104_16, i_104_17, p_104_17, i_104_19, p_104_19, i_104_20, p_104_20, i_104_25, p_104_25, i_104_29, p_104_29, a_2, w_2, a_81, w_81, a_89, w_89, a_91, w_91, a_93, w_93, a_94, w_94, a_95, w_95, a_105, w_105, a_106, w_106, a_107, w_107, a_108, w_108, a_109, w_109, a_110, w_110, a_111, w_111, a_112, w_112, a_113, w_113, a_114, w_114, a_115, w_115, a_116, w_116, a_117, w_117, a_118, w_118, a_119, w_119, a_120, w_120, a_121, w_121, a_122, w_122, a_123, w_123, a_124, w_124, s_size r82, hlen]
  have h00 : (lay z g C, J 0, J ((A.1 : Int) - 1)) = ((fun t : Nat => (lay z g (chC C A (A.1 - t)), J (KP C A (A.1 - t) 24 : Nat), J ((A.1 : Int) - 1 - (t : Int)))) 0) := by
    show _ = (lay z g (chC C A (A.1 - 0)), J (KP C A (A.1 - 0) 24 : Nat), J ((A.1 : Int) - 1 - ((0 : Nat) : Int)))
    rw [Nat.sub_zero, e00, KP_end C A (Nat.le_refl _)]; simp
  rw [h00]
  refine lp_for (fun t : Nat => (lay z g (chC C A (A.1 - t)), J (KP C A (A.1 - t) 24 : Nat), J ((A.1 : Int) - 1 - (t : Int)))) 0 A.1 _ (by omega) ?_ ?_
  · intro t _ ht kc
    obtain ⟨i, hi⟩ : ∃ i : Nat, i = A.1 - (t + 1) := ⟨_, rfl⟩
    have ei : (A.1 : Int) - 1 - (t : Int) = (i : Int) := by omega
    have et : A.1 - t = i + 1 := by omega
    have ec : ((i : Int) + 1) = ((i + 1 : Nat) : Int) := by omega
    unfold BX9_measureChains_10 CX9_measureChains_10
    simp only [ei, et, ← hi]
    simp (disch := omega) only [J_add, J_sub, J_mul, J_lt, J_le, J_eq, xbr_true, xbr_false, xbr_pos, xbr_neg, Int.toNat_natCast, all_eq, ex_eq, ec]
    rw [inner _ kc i (by omega)]
    have hs := KP_step C A (i := i) (l := 24) (by omega)
    have hm : may C A 24 i = true := by unfold may; simp
    rw [if_pos hm] at hs
    have b1 := KPl (i + 1) 24
    have b2 := KPl (i + 1) i
    have b3 : LL C A i ≤ 25 := by unfold LL; omega
    simp (disch := omega) only [J_add, J_sub, J_mul, J_lt, J_le, J_eq, xbr_true, xbr_false, xbr_pos, xbr_neg, Int.toNat_natCast, all_eq, ex_eq]
    have e7 : (i : Int) + -1 = (A.1 : Int) - 1 - ((t + 1 : Nat) : Int) := by omega
    rw [hs, e7]
    by_cases c2 : KP C A (i + 1) 24 < LL C A i
    · rw [if_pos (by omega), Nat.max_eq_right (by omega)]
    · rw [if_neg (by omega), Nat.max_eq_left (by omega)]
  · intro kc
    unfold BX9_measureChains_10 CX9_measureChains_10
    simp (disch := omega) only [J_add, J_sub, J_mul, J_lt, J_le, J_eq, xbr_true, xbr_false, xbr_pos, xbr_neg, Int.toNat_natCast, all_eq, ex_eq]
    rw [Nat.sub_self]
theorem s_outOf {K : Int32 → Mem → Prop} (k1 : RowC C 82 A) (k3 : RwOk A nb) (hn : nb ≤ 24) (hB : BooksOk C) : PX9_outOfPlace (ad z 88) (ad z 82) (ad z 3) (lay z g C) K = K (orS 24 (outB C A)) (lay z g (chC C A 0)) := by
  have l24 := k1.len
  have kr : RowC (chC C A 0) 82 A := k1.fr (chC_ne (by omega)) (chC_ne (by omega)) (chC_ne (by omega))
  have kB : BooksOk (chC C A 0) := hB.fr (fun o _ _ => chC_ne (by omega))
  have ah : ∀ i k, aheadC (chC C A 0) i k 0 = aheadC C i k 0 := fun i k => aheadC_congr (fun o _ _ => chC_ne (by omega))
  have KPl := fun i l => KP_le C A i l
  unfold PX9_outOfPlace
  simp (disch := omega) only [J_add, J_sub, J_mul, J_lt, J_le, J_eq, xbr_true, xbr_false, xbr_pos, xbr_neg, Int.toNat_natCast, all_eq, ex_eq, t_0, q_0_0, q_0_1, q_0_2, q_0_3, q_0_4, q_0_5, q_0_6, q_0_7, q_0_8, q_0_9, i_0_10, p_0_10, i_0_11, p_0_11, i_0_12, p_0_12, t_1, q_1_0, t_3, q_3_0, q_3_1, i_3_2, p_3_2, i_3_3, p_3_3, t_80, q_80_0, t_88, q_88_0, t_90, q_90_0, t_92, q_92_0, q_92_1, q_92_2, i_92_3, p_92_3, i_92_4, p_92_4, t_96, q_96_0, i_96_1, p_96_1, i_96_2, p_96_2, i_96_3, p_96_3, t_100, q_100_0, i_100_1, p_100_1, i_100_2, p_100_2, i_100_3, p_100_3, t_104, q_104_1, q_104_2, q_104_3, q_104_4, q_104_5, q_104_6, q_104_8, q_104_9, q_104_11, q_104_12, q_104_18, q_104_21, q_104_22, q_104_23, q_104_24, q_104_26, q_104_27, q_104_28, q_104_30, q_104_31, i_104_0, p_104_0, i_104_7, p_104_7, i_104_10, p_104_10, i_104_13, p_104_13, i_104_14, p_104_14, i_104_15, p_104_15, i_104_16, p_104_16, i_104_17, p_104_17, i_104_19, p_104_19, i_104_20, p_104_20, i_104_25, p_104_25, i_104_29, p_104_29, a_2, w_2, a_81, w_81, a_89, w_89, a_91, w_91, a_93, w_93, a_94, w_94, a_95, w_95, a_105, w_105, a_106, w_106, a_107, w_107, a_108, w_108, a_109, w_109, a_110, w_110, a_111, w_111, a_112, w_112, a_113, w_113, a_114, w_114, a_115, w_115, a_116, w_116, a_117, w_117, a_118, w_118, a_119, w_119, a_120, w_120, a_121, w_121, a_122, w_122, a_123, w_123, a_124, w_124, s_chains k1 k3 hn hB]
  have h00 : (J (KP C A 0 24 : Nat), J (-1), J 0, J 0) = ((fun i : Nat => (J (KP C A i (lst C A i) : Nat), J (if lst C A i = 24 then -1 else (A.2.1 (lst C A i) : Int)), outF C A i, J (i : Int))) 0) := rfl
  rw [h00]
  refine lp_for (fun i : Nat => (J (KP C A i (lst C A i) : Nat), J (if lst C A i = 24 then -1 else (A.2.1 (lst C A i) : Int)), outF C A i, J (i : Int))) 0 A.1 _ (by omega) ?_ ?_
  · intro i _ hi kc
    have hlen := kr.1
    have bi := kr.bk hi
    have n1 := k3.1 i hi
    have e89 : chC C A 0 89 i = LL C A i := by unfold chC; rw [if_pos ⟨rfl, by omega, hi⟩]
    have e5 : (0 ≤ (i : Int) ∧ (i : Int) < ((24 : Nat) : Int)) := by omega
    have b1 := KPl i (lst C A i)
    have b2 := KPl (i + 1) i
    have b3 : LL C A i ≤ 25 := by unfold LL; omega
    have sk := stay_KP C A hi
    have lb := lst_b C A i
    have j74 : ∀ x3 x4 : Int32, JX9_outOfPlace_74 K kc (lay z g (chC C A 0)) (ad z 88) (ad z 82) (ad z 3) x3 x4 (outF C A i) (J (i : Int)) (J (A.2.1 i : Nat)) = kc (x3, x4, outF C A i ||| (J 1 <<< (J (A.2.1 i : Nat) &&& 31)), J ((i + 1 : Nat) : Int)) := fun x3 x4 => by
      unfold JX9_outOfPlace_74
      simp (disch := omega) only [J_add, J_sub, J_mul, J_lt, J_le, J_eq, xbr_true, xbr_false, xbr_pos, xbr_neg, Int.toNat_natCast, all_eq, ex_eq]
      rfl
    unfold BX9_outOfPlace_16 CX9_outOfPlace_16
    by_cases c0 : stay C A i = true
    · have c1 := c0
      unfold stay at c1
      simp only [Bool.and_eq_true, beq_iff_eq] at c1
      have el : lst C A (i + 1) = i := by rw [lst_s, if_pos c0]
      have eo : outF C A (i + 1) = outF C A i := by
        show (if stay C A i then _ else _) = _
        rw [if_pos c0]
      rw [if_pos c0, el] at sk
      have ed : ((KP C A i (lst C A i) : Nat) : Int) + -1 = (KP C A (i + 1) i : Nat) := by omega
      rw [el, eo, if_neg (show ¬ i = 24 by omega)]
      by_cases c2 : lst C A i = 24
      · simp (disch := omega) only [J_add, J_sub, J_mul, J_lt, J_le, J_eq, xbr_true, xbr_false, xbr_pos, xbr_neg, Int.toNat_natCast, all_eq, ex_eq, t_0, q_0_0, q_0_1, q_0_2, q_0_3, q_0_4, q_0_5, q_0_6, q_0_7, q_0_8, q_0_9, i_0_10, p_0_10, i_0_11, p_0_11, i_0_12, p_0_12, t_1, q_1_0, t_3, q_3_0, q_3_1, i_3_2, p_3_2, i_3_3, p_3_3, t_80, q_80_0, t_88, q_88_0, t_90, q_90_0, t_92, q_92_0, q_92_1, q_92_2, i_92_3, p_92_3, i_92_4, p_92_4, t_96, q_96_0, i_96_1, p_96_1, i_96_2, p_96_2, i_96_3, p_96_3, t_100, q_100_0, i_100_1, p_100_1, i_100_2, p_100_2, i_100_3, p_100_3, t_104, q_104_1, q_104_2, q_104_3, q_104_4, q_104_5, q_104_6, q_104_8, q_104_9, q_104_11, q_104_12, q_104_18, q_104_21, q_104_22, q_104_23, q_104_24, q_104_26, q_104_27, q_104_28, q_104_30, q_104_31, i_104_0, p_104_0, i_104_7, p_104_7, i_104_10, p_104_10, i_104_13, p_104_13, i_104_14, p_104_14, i_104_15, p_104_15, i_104_16, p_104_16, i_104_17, p_104_17, i_104_19, p_104_19, i_104_20, p_104_20, i_104_25, p_104_25, i_104_29, p_104_29, a_2, w_2, a_81, w_81, a_89, w_89, a_91, w_91, a_93, w_93, a_94, w_94, a_95, w_95, a_105, w_105, a_106, w_106, a_107, w_107, a_108, w_108, a_109, w_109, a_110, w_110, a_111, w_111, a_112, w_112, a_113, w_113, a_114, w_114, a_115, w_115, a_116, w_116, a_117, w_117, a_118, w_118, a_119, w_119, a_120, w_120, a_121, w_121, a_122, w_122, a_123, w_123, a_124, w_124, s_size r82, hlen, s_bookAt r82 kr.2.2.2.2, bi, s_entry (o := 89) (N := 24) rfl, if_pos e5, e89, if_pos c2, ed]
        rfl
      · have n2 := k3.1 (lst C A i) (by omega)
        have cm : aheadC C (A.2.1 (lst C A i)) (A.2.1 i) 0 = true := by
          have := c1.1
          unfold may at this
          simpa [c2] using this
        simp (disch := omega) only [J_add, J_sub, J_mul, J_lt, J_le, J_eq, xbr_true, xbr_false, xbr_pos, xbr_neg, Int.toNat_natCast, all_eq, ex_eq, t_0, q_0_0, q_0_1, q_0_2, q_0_3, q_0_4, q_0_5, q_0_6, q_0_7, q_0_8, q_0_9, i_0_10, p_0_10, i_0_11, p_0_11, i_0_12, p_0_12, t_1, q_1_0, t_3, q_3_0, q_3_1, i_3_2, p_3_2, i_3_3, p_3_3, t_80, q_80_0, t_88, q_88_0, t_90, q_90_0, t_92, q_92_0, q_92_1, q_92_2, i_92_3, p_92_3, i_92_4, p_92_4, t_96, q_96_0, i_96_1, p_96_1, i_96_2, p_96_2, i_96_3, p_96_3, t_100, q_100_0, i_100_1, p_100_1, i_100_2, p_100_2, i_100_3, p_100_3, t_104, q_104_1, q_104_2, q_104_3, q_104_4, q_104_5, q_104_6, q_104_8, q_104_9, q_104_11, q_104_12, q_104_18, q_104_21, q_104_22, q_104_23, q_104_24, q_104_26, q_104_27, q_104_28, q_104_30, q_104_31, i_104_0, p_104_0, i_104_7, p_104_7, i_104_10, p_104_10, i_104_13, p_104_13, i_104_14, p_104_14, i_104_15, p_104_15, i_104_16, p_104_16, i_104_17, p_104_17, i_104_19, p_104_19, i_104_20, p_104_20, i_104_25, p_104_25, i_104_29, p_104_29, a_2, w_2, a_81, w_81, a_89, w_89, a_91, w_91, a_93, w_93, a_94, w_94, a_95, w_95, a_105, w_105, a_106, w_106, a_107, w_107, a_108, w_108, a_109, w_109, a_110, w_110, a_111, w_111, a_112, w_112, a_113, w_113, a_114, w_114, a_115, w_115, a_116, w_116, a_117, w_117, a_118, w_118, a_119, w_119, a_120, w_120, a_121, w_121, a_122, w_122, a_123, w_123, a_124, w_124, s_size r82, hlen, s_bookAt r82 kr.2.2.2.2, bi, s_entry (o := 89) (N := 24) rfl, if_pos e5, e89, if_neg c2, ed, s_isAhead kB, ah, if_pos cm]
        rfl
    · have el : lst C A (i + 1) = lst C A i := by rw [lst_s, if_neg c0]
      have eo : outF C A (i + 1) = outF C A i ||| (J 1 <<< (J (A.2.1 i : Nat) &&& 31)) := by
        show (if stay C A i then _ else _) = _
        rw [if_neg c0]
      rw [if_neg c0, el, Nat.add_zero] at sk
      rw [el, eo, sk]
      by_cases c3 : LL C A i = KP C A i (lst C A i)
      · have cm : may C A (lst C A i) i = false := by
          unfold stay at c0
          simp only [Bool.and_eq_true, beq_iff_eq] at c0
          cases hm : may C A (lst C A i) i with
          | false => rfl
          | true => exact absurd ⟨hm, c3⟩ c0
        unfold may at cm
        simp only [Bool.or_eq_false_iff, decide_eq_false_iff_not] at cm
        have n2 := k3.1 (lst C A i) (by omega)
        simp (disch := omega) only [J_add, J_sub, J_mul, J_lt, J_le, J_eq, xbr_true, xbr_false, xbr_pos, xbr_neg, Int.toNat_natCast, all_eq, ex_eq, t_0, q_0_0, q_0_1, q_0_2, q_0_3, q_0_4, q_0_5, q_0_6, q_0_7, q_0_8, q_0_9, i_0_10, p_0_10, i_0_11, p_0_11, i_0_12, p_0_12, t_1, q_1_0, t_3, q_3_0, q_3_1, i_3_2, p_3_2, i_3_3, p_3_3, t_80, q_80_0, t_88, q_88_0, t_90, q_90_0, t_92, q_92_0, q_92_1, q_92_2, i_92_3, p_92_3, i_92_4, p_92_4, t_96, q_96_0, i_96_1, p_96_1, i_96_2, p_96_2, i_96_3, p_96_3, t_100, q_100_0, i_100_1, p_100_1, i_100_2, p_100_2, i_100_3, p_100_3, t_104, q_104_1, q_104_2, q_104_3, q_104_4, q_104_5, q_104_6, q_104_8, q_104_9, q_104_11, q_104_12, q_104_18, q_104_21, q_104_22, q_104_23, q_104_24, q_104_26, q_104_27, q_104_28, q_104_30, q_104_31, i_104_0, p_104_0, i_104_7, p_104_7, i_104_10, p_104_10, i_104_13, p_104_13, i_104_14, p_104_14, i_104_15, p_104_15, i_104_16, p_104_16, i_104_17, p_104_17, i_104_19, p_104_19, i_104_20, p_104_20, i_104_25, p_104_25, i_104_29, p_104_29, a_2, w_2, a_81, w_81, a_89, w_89, a_91, w_91, a_93, w_93, a_94, w_94, a_95, w_95, a_105, w_105, a_106, w_106, a_107, w_107, a_108, w_108, a_109, w_109, a_110, w_110, a_111, w_111, a_112, w_112, a_113, w_113, a_114, w_114, a_115, w_115, a_116, w_116, a_117, w_117, a_118, w_118, a_119, w_119, a_120, w_120, a_121, w_121, a_122, w_122, a_123, w_123, a_124, w_124, s_size r82, hlen, s_bookAt r82 kr.2.2.2.2, bi, s_entry (o := 89) (N := 24) rfl, if_pos e5, e89, if_neg cm.1, s_isAhead kB, ah, cm.2, Bool.false_eq_true, if_false, j74]
      · simp (disch := omega) only [J_add, J_sub, J_mul, J_lt, J_le, J_eq, xbr_true, xbr_false, xbr_pos, xbr_neg, Int.toNat_natCast, all_eq, ex_eq, t_0, q_0_0, q_0_1, q_0_2, q_0_3, q_0_4, q_0_5, q_0_6, q_0_7, q_0_8, q_0_9, i_0_10, p_0_10, i_0_11, p_0_11, i_0_12, p_0_12, t_1, q_1_0, t_3, q_3_0, q_3_1, i_3_2, p_3_2, i_3_3, p_3_3, t_80, q_80_0, t_88, q_88_0, t_90, q_90_0, t_92, q_92_0, q_92_1, q_92_2, i_92_3, p_92_3, i_92_4, p_92_4, t_96, q_96_0, i_96_1, p_96_1, i_96_2, p_96_2, i_96_3, p_96_3, t_100, q_100_0, i_100_1, p_100_1, i_100_2, p_100_2, i_100_3, p_100_3, t_104, q_104_1, q_104_2, q_104_3, q_104_4, q_104_5, q_104_6, q_104_8, q_104_9, q_104_11, q_104_12, q_104_18, q_104_21, q_104_22, q_104_23, q_104_24, q_104_26, q_104_27, q_104_28, q_104_30, q_104_31, i_104_0, p_104_0, i_104_7, p_104_7, i_104_10, p_104_10, i_104_13, p_104_13, i_104_14, p_104_14, i_104_15, p_104_15, i_104_16, p_104_16, i_104_17, p_104_17, i_104_19, p_104_19, i_104_20, p_104_20, i_104_25, p_104_25, i_104_29, p_104_29, a_2, w_2, a_81, w_81, a_89, w_89, a_91, w_91, a_93, w_93, a_94, w_94, a_95, w_95, a_105, w_105, a_106, w_106, a_107, w_107, a_108, w_108, a_109, w_109, a_110, w_110, a_111, w_111, a_112, w_112, a_113, w_113, a_114, w_114, a_115, w_115, a_116, w_116, a_117, w_117, a_118, w_118, a_119, w_119, a_120, w_120, a_121, w_121, a_122, w_122, a_123, w_123, a_124, w_124, s_size r82, hlen, s_bookAt r82 kr.2.2.2.2, bi, s_entry (o := 89) (N := 24) rfl, if_pos e5, e89, j74]
  · intro kc
    have hlen := kr.1
    unfold BX9_outOfPlace_16 CX9_outOfPlace_16
    simp (disch := omega) only [J_add, J_sub, J_mul, J_lt, J_le, J_eq, xbr_true, xbr_false, xbr_pos, xbr_neg, Int.toNat_natCast, all_eq, ex_eq, t_0, q_0_0, q_0_1, q_0_2, q_0_3, q_0_4, q_0_5, q_0_6, q_0_7, q_0_8, q_0_9, i_0_10, p_0_10, i_0_11, p_0_11, i_0_12, p_0_12, t_1, q_1_0, t_3, q_3_0, q_3_1, i_3_2, p_3_2, i_3_3, p_3_3, t_80, q_80_0, t_88, q_88_0, t_90, q_90_0, t_92, q_92_0, q_92_1, q_92_2, i_92_3, p_92_3, i_92_4, p_92_4, t_96, q_96_0, i_96_1, p_96_1, i_96_2, p_96_2, i_96_3, p_96_3, t_100, q_100_0, i_100_1, p_100_1, i_100_2, p_100_2, i_100_3, p_100_3, t_104, q_104_1, q_104_2, q_104_3, q_104_4, q_104_5, q_104_6, q_104_8, q_104_9, q_104_11, q_104_12, q_104_18, q_104_21, q_104_22, q_104_23, q_104_24, q_104_26, q_104_27, q_104_28, q_104_30, q_104_31, i_104_0, p_104_0, i_104_7, p_104_7, i_104_10, p_104_10, i_104_13, p_104_13, i_104_14, p_104_14, i_104_15, p_104_15, i_104_16, p_104_16, i_104_17, p_104_17, i_104_19, p_104_19, i_104_20, p_104_20, i_104_25, p_104_25, i_104_29, p_104_29, a_2, w_2, a_81, w_81, a_89, w_89, a_91, w_91, a_93, w_93, a_94, w_94, a_95, w_95, a_105, w_105, a_106, w_106, a_107, w_107, a_108, w_108, a_109, w_109, a_110, w_110, a_111, w_111, a_112, w_112, a_113, w_113, a_114, w_114, a_115, w_115, a_116, w_116, a_117, w_117, a_118, w_118, a_119, w_119, a_120, w_120, a_121, w_121, a_122, w_122, a_123, w_123, a_124, w_124, s_size r82, hlen]
    rw [outF_orS C k3 hn]
theorem m_may {K : Int32 → Prop} (k2 : RowM C A) (k3 : RwOk A nb) (hn : nb ≤ 24) (hB : ∀ b, b < nb → BkRel C b) {l i : Nat} (hi : i < A.1) (hl : l = 24 ∨ l < A.1) : PX11_mayStand (ad z 104) (J l) (J i) (lay z g C) K = K (J (if may C A l i then 1 else 0)) := by
  have l24 := k2.2.1
  have n1 := k3.1 i hi
  unfold PX11_mayStand may
  by_cases c : l = 24
  · subst c
    simp (disch := omega) only [J_add, J_sub, J_mul, J_lt, J_le, J_eq, xbr_true, xbr_false, xbr_pos, xbr_neg, Int.toNat_natCast, all_eq, ex_eq, t_0, q_0_0, q_0_1, q_0_2, q_0_3, q_0_4, q_0_5, q_0_6, q_0_7, q_0_8, q_0_9, i_0_10, p_0_10, i_0_11, p_0_11, i_0_12, p_0_12, t_1, q_1_0, t_3, q_3_0, q_3_1, i_3_2, p_3_2, i_3_3, p_3_3, t_80, q_80_0, t_88, q_88_0, t_90, q_90_0, t_92, q_92_0, q_92_1, q_92_2, i_92_3, p_92_3, i_92_4, p_92_4, t_96, q_96_0, i_96_1, p_96_1, i_96_2, p_96_2, i_96_3, p_96_3, t_100, q_100_0, i_100_1, p_100_1, i_100_2, p_100_2, i_100_3, p_100_3, t_104, q_104_1, q_104_2, q_104_3, q_104_4, q_104_5, q_104_6, q_104_8, q_104_9, q_104_11, q_104_12, q_104_18, q_104_21, q_104_22, q_104_23, q_104_24, q_104_26, q_104_27, q_104_28, q_104_30, q_104_31, i_104_0, p_104_0, i_104_7, p_104_7, i_104_10, p_104_10, i_104_13, p_104_13, i_104_14, p_104_14, i_104_15, p_104_15, i_104_16, p_104_16, i_104_17, p_104_17, i_104_19, p_104_19, i_104_20, p_104_20, i_104_25, p_104_25, i_104_29, p_104_29, a_2, w_2, a_81, w_81, a_89, w_89, a_91, w_91, a_93, w_93, a_94, w_94, a_95, w_95, a_105, w_105, a_106, w_106, a_107, w_107, a_108, w_108, a_109, w_109, a_110, w_110, a_111, w_111, a_112, w_112, a_113, w_113, a_114, w_114, a_115, w_115, a_116, w_116, a_117, w_117, a_118, w_118, a_119, w_119, a_120, w_120, a_121, w_121, a_122, w_122, a_123, w_123, a_124, w_124, isB1, true_and]
    simp
  · have n2 := k3.1 l (by omega)
    simp (disch := omega) only [J_add, J_sub, J_mul, J_lt, J_le, J_eq, xbr_true, xbr_false, xbr_pos, xbr_neg, Int.toNat_natCast, all_eq, ex_eq, t_0, q_0_0, q_0_1, q_0_2, q_0_3, q_0_4, q_0_5, q_0_6, q_0_7, q_0_8, q_0_9, i_0_10, p_0_10, i_0_11, p_0_11, i_0_12, p_0_12, t_1, q_1_0, t_3, q_3_0, q_3_1, i_3_2, p_3_2, i_3_3, p_3_3, t_80, q_80_0, t_88, q_88_0, t_90, q_90_0, t_92, q_92_0, q_92_1, q_92_2, i_92_3, p_92_3, i_92_4, p_92_4, t_96, q_96_0, i_96_1, p_96_1, i_96_2, p_96_2, i_96_3, p_96_3, t_100, q_100_0, i_100_1, p_100_1, i_100_2, p_100_2, i_100_3, p_100_3, t_104, q_104_1, q_104_2, q_104_3, q_104_4, q_104_5, q_104_6, q_104_8, q_104_9, q_104_11, q_104_12, q_104_18, q_104_21, q_104_22, q_104_23, q_104_24, q_104_26, q_104_27, q_104_28, q_104_30, q_104_31, i_104_0, p_104_0, i_104_7, p_104_7, i_104_10, p_104_10, i_104_13, p_104_13, i_104_14, p_104_14, i_104_15, p_104_15, i_104_16, p_104_16, i_104_17, p_104_17, i_104_19, p_104_19, i_104_20, p_104_20, i_104_25, p_104_25, i_104_29, p_104_29, a_2, w_2, a_81, w_81, a_89, w_89, a_91, w_91, a_93, w_93, a_94, w_94, a_95, w_95, a_105, w_105, a_106, w_106, a_107, w_107, a_108, w_108, a_109, w_109, a_110, w_110, a_111, w_111, a_112, w_112, a_113, w_113, a_114, w_114, a_115, w_115, a_116, w_116, a_117, w_117, a_118, w_118, a_119, w_119, a_120, w_120, a_121, w_121, a_122, w_122, a_123, w_123, a_124, w_124, k2.2.2.1 i hi, k2.2.2.1 l (by omega), m_isAhead (hB _ n2) (hB _ n1)]
    by_cases c2 : aheadC C (A.2.1 l) (A.2.1 i) 0 = true
    · simp only [if_pos c2]
      simp (disch := omega) only [J_add, J_sub, J_mul, J_lt, J_le, J_eq, xbr_true, xbr_false, xbr_pos, xbr_neg, Int.toNat_natCast, all_eq, ex_eq, isB1, true_and]
      simp [c2]
    · simp only [if_neg c2]
      simp (disch := omega) only [J_add, J_sub, J_mul, J_lt, J_le, J_eq, xbr_true, xbr_false, xbr_pos, xbr_neg, Int.toNat_natCast, all_eq, ex_eq, isB0, true_and]
      simp [c2, c]
theorem m_fw11 (k2 : RowM C A) (k3 : RwOk A nb) (hn : nb ≤ 24) (hB : ∀ b, b < nb → BkRel C b) {K : Int32 → Mem → Prop} (kc5 : Mem × Int32 → Prop) {i : Nat} (hi : i ≤ A.1) : lp (BX11_findWrong_11 K kc5 (ad z 104) (J (i : Int))) (lay z g (kpC C A (i + 1) 0), J 0) = kc5 (lay z g (kpC C A i 0), J ((i : Int) + -1)) := by
  have l24 := k2.2.1
  have kr : ∀ d l, RowM (kpC C A d l) A := fun d l => k2.fr (by rw [kpC_ne (by omega)]) (kpC_ne (by omega)) (kpC_ne (by omega))
  have kB : ∀ d l b, b < nb → BkRel (kpC C A d l) b := fun d l b hb => (hB b hb).fr (by omega) (fun a _ _ => kpC_ne (by omega)) (fun a _ _ => kpC_ne (by omega))
  have km : ∀ d l a b, may (kpC C A d l) A a b = may C A a b := fun d l a b => by
    unfold may
    rw [aheadC_congr (fun o _ _ => kpC_ne (by omega))]
  have KPl := fun i l => KP_le C A i l
  have e00 : kpC C A (A.1 + 1) 0 = C := by
    funext a j; unfold kpC; rw [if_neg (by omega)]
  refine lp_for (fun l : Nat => (lay z g (kpC C A (i + 1) l), J (l : Int))) 0 25 _ (by omega) ?_ ?_
  · intro l _ hl kc
    have hlen := (kr (i + 1) l).1
    have ej : (25 * (i : Int) + (l : Int)).toNat = 25 * i + l := by omega
    have ej1 : (25 * ((i : Int) + 1) + (l : Int)).toNat = 25 * (i + 1) + l := by omega
    have ej2 : (25 * ((i : Int) + 1) + (i : Int)).toNat = 25 * (i + 1) + i := by omega
    have b1 := KPl (i + 1) l
    have b2 := KPl (i + 1) i
    have mst := fun K hi hl => m_may (z := z) (g := g) (K := K) (kr (i + 1) l) k3 hn (kB (i + 1) l) (l := l) (i := i) hi hl
    rw [km] at mst
    unfold BX11_findWrong_11 CX11_findWrong_11
    unfold JX11_findWrong_28 JX11_findWrong_33 JX11_findWrong_46 JX11_findWrong_63 JX11_findWrong_104 JX11_findWrong_105
    by_cases hu : l = 24 ∨ l < i
    · by_cases ci : i = A.1
      · have e6 := kpC_up (C := C) (A := A) (i := i) (l := l) (v := 0) hl hi (by rw [if_pos hu, KP_end C A (by omega)]; rfl)
        by_cases c24 : l = 24
        · simp (disch := omega) only [J_add, J_sub, J_mul, J_lt, J_le, J_eq, xbr_true, xbr_false, xbr_pos, xbr_neg, Int.toNat_natCast, all_eq, ex_eq, t_0, q_0_0, q_0_1, q_0_2, q_0_3, q_0_4, q_0_5, q_0_6, q_0_7, q_0_8, q_0_9, i_0_10, p_0_10, i_0_11, p_0_11, i_0_12, p_0_12, t_1, q_1_0, t_3, q_3_0, q_3_1, i_3_2, p_3_2, i_3_3, p_3_3, t_80, q_80_0, t_88, q_88_0, t_90, q_90_0, t_92, q_92_0, q_92_1, q_92_2, i_92_3, p_92_3, i_92_4, p_92_4, t_96, q_96_0, i_96_1, p_96_1, i_96_2, p_96_2, i_96_3, p_96_3, t_100, q_100_0, i_100_1, p_100_1, i_100_2, p_100_2, i_100_3, p_100_3, t_104, q_104_1, q_104_2, q_104_3, q_104_4, q_104_5, q_104_6, q_104_8, q_104_9, q_104_11, q_104_12, q_104_18, q_104_21, q_104_22, q_104_23, q_104_24, q_104_26, q_104_27, q_104_28, q_104_30, q_104_31, i_104_0, p_104_0, i_104_7, p_104_7, i_104_10, p_104_10, i_104_13, p_104_13, i_104_14, p_104_14, i_104_15, p_104_15, i_104_16, p_104_16, i_104_17, p_104_17, i_104_19, p_104_19, i_104_20, p_104_20, i_104_25, p_104_25, i_104_29, p_104_29, a_2, w_2, a_81, w_81, a_89, w_89, a_91, w_91, a_93, w_93, a_94, w_94, a_95, w_95, a_105, w_105, a_106, w_106, a_107, w_107, a_108, w_108, a_109, w_109, a_110, w_110, a_111, w_111, a_112, w_112, a_113, w_113, a_114, w_114, a_115, w_115, a_116, w_116, a_117, w_117, a_118, w_118, a_119, w_119, a_120, w_120, a_121, w_121, a_122, w_122, a_123, w_123, a_124, w_124, hlen, ej, e6]
          rfl
        · simp (disch := omega) only [J_add, J_sub, J_mul, J_lt, J_le, J_eq, xbr_true, xbr_false, xbr_pos, xbr_neg, Int.toNat_natCast, all_eq, ex_eq, t_0, q_0_0, q_0_1, q_0_2, q_0_3, q_0_4, q_0_5, q_0_6, q_0_7, q_0_8, q_0_9, i_0_10, p_0_10, i_0_11, p_0_11, i_0_12, p_0_12, t_1, q_1_0, t_3, q_3_0, q_3_1, i_3_2, p_3_2, i_3_3, p_3_3, t_80, q_80_0, t_88, q_88_0, t_90, q_90_0, t_92, q_92_0, q_92_1, q_92_2, i_92_3, p_92_3, i_92_4, p_92_4, t_96, q_96_0, i_96_1, p_96_1, i_96_2, p_96_2, i_96_3, p_96_3, t_100, q_100_0, i_100_1, p_100_1, i_100_2, p_100_2, i_100_3, p_100_3, t_104, q_104_1, q_104_2, q_104_3, q_104_4, q_104_5, q_104_6, q_104_8, q_104_9, q_104_11, q_104_12, q_104_18, q_104_21, q_104_22, q_104_23, q_104_24, q_104_26, q_104_27, q_104_28, q_104_30, q_104_31, i_104_0, p_104_0, i_104_7, p_104_7, i_104_10, p_104_10, i_104_13, p_104_13, i_104_14, p_104_14, i_104_15, p_104_15, i_104_16, p_104_16, i_104_17, p_104_17, i_104_19, p_104_19, i_104_20, p_104_20, i_104_25, p_104_25, i_104_29, p_104_29, a_2, w_2, a_81, w_81, a_89, w_89, a_91, w_91, a_93, w_93, a_94, w_94, a_95, w_95, a_105, w_105, a_106, w_106, a_107, w_107, a_108, w_108, a_109, w_109, a_110, w_110, a_111, w_111, a_112, w_112, a_113, w_113, a_114, w_114, a_115, w_115, a_116, w_116, a_117, w_117, a_118, w_118, a_119, w_119, a_120, w_120, a_121, w_121, a_122, w_122, a_123, w_123, a_124, w_124, hlen, ej, e6]
          rfl
      · have f1 := kpC_at (C := C) (A := A) (d := i + 1) (l := l) (i := i + 1) (q := l) hl (Nat.le_refl _) (by omega) (by omega)
        have f2 := kpC_at (C := C) (A := A) (d := i + 1) (l := l) (i := i + 1) (q := i) (by omega) (Nat.le_refl _) (by omega) (by omega)
        have hs := KP_step C A (i := i) (l := l) (by omega)
        have ms := fun K => mst K (by omega) (by omega)
        by_cases cm : may C A l i = true
        · rw [if_pos cm] at hs
          simp only [if_pos cm] at ms
          by_cases c7 : LL C A i ≤ KP C A (i + 1) l
          · have e6 := kpC_up (C := C) (A := A) (i := i) (l := l) (v := KP C A (i + 1) l) hl hi (by rw [if_pos hu, hs, Nat.max_eq_left c7])
            unfold LL at c7
            by_cases c24 : l = 24
            · simp (disch := omega) only [J_add, J_sub, J_mul, J_lt, J_le, J_eq, xbr_true, xbr_false, xbr_pos, xbr_neg, Int.toNat_natCast, all_eq, ex_eq, t_0, q_0_0, q_0_1, q_0_2, q_0_3, q_0_4, q_0_5, q_0_6, q_0_7, q_0_8, q_0_9, i_0_10, p_0_10, i_0_11, p_0_11, i_0_12, p_0_12, t_1, q_1_0, t_3, q_3_0, q_3_1, i_3_2, p_3_2, i_3_3, p_3_3, t_80, q_80_0, t_88, q_88_0, t_90, q_90_0, t_92, q_92_0, q_92_1, q_92_2, i_92_3, p_92_3, i_92_4, p_92_4, t_96, q_96_0, i_96_1, p_96_1, i_96_2, p_96_2, i_96_3, p_96_3, t_100, q_100_0, i_100_1, p_100_1, i_100_2, p_100_2, i_100_3, p_100_3, t_104, q_104_1, q_104_2, q_104_3, q_104_4, q_104_5, q_104_6, q_104_8, q_104_9, q_104_11, q_104_12, q_104_18, q_104_21, q_104_22, q_104_23, q_104_24, q_104_26, q_104_27, q_104_28, q_104_30, q_104_31, i_104_0, p_104_0, i_104_7, p_104_7, i_104_10, p_104_10, i_104_13, p_104_13, i_104_14, p_104_14, i_104_15, p_104_15, i_104_16, p_104_16, i_104_17, p_104_17, i_104_19, p_104_19, i_104_20, p_104_20, i_104_25, p_104_25, i_104_29, p_104_29, a_2, w_2, a_81, w_81, a_89, w_89, a_91, w_91, a_93, w_93, a_94, w_94, a_95, w_95, a_105, w_105, a_106, w_106, a_107, w_107, a_108, w_108, a_109, w_109, a_110, w_110, a_111, w_111, a_112, w_112, a_113, w_113, a_114, w_114, a_115, w_115, a_116, w_116, a_117, w_117, a_118, w_118, a_119, w_119, a_120, w_120, a_121, w_121, a_122, w_122, a_123, w_123, a_124, w_124, hlen, ej, ej1, ej2, ms, f1, f2, e6]
              rfl
            · simp (disch := omega) only [J_add, J_sub, J_mul, J_lt, J_le, J_eq, xbr_true, xbr_false, xbr_pos, xbr_neg, Int.toNat_natCast, all_eq, ex_eq, t_0, q_0_0, q_0_1, q_0_2, q_0_3, q_0_4, q_0_5, q_0_6, q_0_7, q_0_8, q_0_9, i_0_10, p_0_10, i_0_11, p_0_11, i_0_12, p_0_12, t_1, q_1_0, t_3, q_3_0, q_3_1, i_3_2, p_3_2, i_3_3, p_3_3, t_80, q_80_0, t_88, q_88_0, t_90, q_90_0, t_92, q_92_0, q_92_1, q_92_2, i_92_3, p_92_3, i_92_4, p_92_4, t_96, q_96_0, i_96_1, p_96_1, i_96_2, p_96_2, i_96_3, p_96_3, t_100, q_100_0, i_100_1, p_100_1, i_100_2, p_100_2, i_100_3, p_100_3, t_104, q_104_1, q_104_2, q_104_3, q_104_4, q_104_5, q_104_6, q_104_8, q_104_9, q_104_11, q_104_12, q_104_18, q_104_21, q_104_22, q_104_23, q_104_24, q_104_26, q_104_27, q_104_28, q_104_30, q_104_31, i_104_0, p_104_0, i_104_7, p_104_7, i_104_10, p_104_10, i_104_13, p_104_13, i_104_14, p_104_14, i_104_15, p_104_15, i_104_16, p_104_16, i_104_17, p_104_17, i_104_19, p_104_19, i_104_20, p_104_20, i_104_25, p_104_25, i_104_29, p_104_29, a_2, w_2, a_81, w_81, a_89, w_89, a_91, w_91, a_93, w_93, a_94, w_94, a_95, w_95, a_105, w_105, a_106, w_106, a_107, w_107, a_108, w_108, a_109, w_109, a_110, w_110, a_111, w_111, a_112, w_112, a_113, w_113, a_114, w_114, a_115, w_115, a_116, w_116, a_117, w_117, a_118, w_118, a_119, w_119, a_120, w_120, a_121, w_121, a_122, w_122, a_123, w_123, a_124, w_124, hlen, ej, ej1, ej2, ms, f1, f2, e6]
              rfl
          · have e6 := kpC_up (C := C) (A := A) (i := i) (l := l) (v := 1 + KP C A (i + 1) i) hl hi (by rw [if_pos hu, hs, Nat.max_eq_right (by omega)]; unfold LL; omega)
            unfold LL at c7
            by_cases c24 : l = 24
            · simp (disch := omega) only [J_add, J_sub, J_mul, J_lt, J_le, J_eq, xbr_true, xbr_false, xbr_pos, xbr_neg, Int.toNat_natCast, all_eq, ex_eq, t_0, q_0_0, q_0_1, q_0_2, q_0_3, q_0_4, q_0_5, q_0_6, q_0_7, q_0_8, q_0_9, i_0_10, p_0_10, i_0_11, p_0_11, i_0_12, p_0_12, t_1, q_1_0, t_3, q_3_0, q_3_1, i_3_2, p_3_2, i_3_3, p_3_3, t_80, q_80_0, t_88, q_88_0, t_90, q_90_0, t_92, q_92_0, q_92_1, q_92_2, i_92_3, p_92_3, i_92_4, p_92_4, t_96, q_96_0, i_96_1, p_96_1, i_96_2, p_96_2, i_96_3, p_96_3, t_100, q_100_0, i_100_1, p_100_1, i_100_2, p_100_2, i_100_3, p_100_3, t_104, q_104_1, q_104_2, q_104_3, q_104_4, q_104_5, q_104_6, q_104_8, q_104_9, q_104_11, q_104_12, q_104_18, q_104_21, q_104_22, q_104_23, q_104_24, q_104_26, q_104_27, q_104_28, q_104_30, q_104_31, i_104_0, p_104_0, i_104_7, p_104_7, i_104_10, p_104_10, i_104_13, p_104_13, i_104_14, p_104_14, i_104_15, p_104_15, i_104_16, p_104_16, i_104_17, p_104_17, i_104_19, p_104_19, i_104_20, p_104_20, i_104_25, p_104_25, i_104_29, p_104_29, a_2, w_2, a_81, w_81, a_89, w_89, a_91, w_91, a_93, w_93, a_94, w_94, a_95, w_95, a_105, w_105, a_106, w_106, a_107, w_107, a_108, w_108, a_109, w_109, a_110, w_110, a_111, w_111, a_112, w_112, a_113, w_113, a_114, w_114, a_115, w_115, a_116, w_116, a_117, w_117, a_118, w_118, a_119, w_119, a_120, w_120, a_121, w_121, a_122, w_122, a_123, w_123, a_124, w_124, hlen, ej, ej1, ej2, ms, f1, f2, e6]
              rfl
            · simp (disch := omega) only [J_add, J_sub, J_mul, J_lt, J_le, J_eq, xbr_true, xbr_false, xbr_pos, xbr_neg, Int.toNat_natCast, all_eq, ex_eq, t_0, q_0_0, q_0_1, q_0_2, q_0_3, q_0_4, q_0_5, q_0_6, q_0_7, q_0_8, q_0_9, i_0_10, p_0_10, i_0_11, p_0_11, i_0_12, p_0_12, t_1, q_1_0, t_3, q_3_0, q_3_1, i_3_2, p_3_2, i_3_3, p_3_3, t_80, q_80_0, t_88, q_88_0, t_90, q_90_0, t_92, q_92_0, q_92_1, q_92_2, i_92_3, p_92_3, i_92_4, p_92_4, t_96, q_96_0, i_96_1, p_96_1, i_96_2, p_96_2, i_96_3, p_96_3, t_100, q_100_0, i_100_1, p_100_1, i_100_2, p_100_2, i_100_3, p_100_3, t_104, q_104_1, q_104_2, q_104_3, q_104_4, q_104_5, q_104_6, q_104_8, q_104_9, q_104_11, q_104_12, q_104_18, q_104_21, q_104_22, q_104_23, q_104_24, q_104_26, q_104_27, q_104_28, q_104_30, q_104_31, i_104_0, p_104_0, i_104_7, p_104_7, i_104_10, p_104_10, i_104_13, p_104_13, i_104_14, p_104_14, i_104_15, p_104_15, i_104_16, p_104_16, i_104_17, p_104_17, i_104_19, p_104_19, i_104_20, p_104_20, i_104_25, p_104_25, i_104_29, p_104_29, a_2, w_2, a_81, w_81, a_89, w_89, a_91, w_91, a_93, w_93, a_94, w_94, a_95, w_95, a_105, w_105, a_106, w_106, a_107, w_107, a_108, w_108, a_109, w_109, a_110, w_110, a_111, w_111, a_112, w_112, a_113, w_113, a_114, w_114, a_115, w_115, a_116, w_116, a_117, w_117, a_118, w_118, a_119, w_119, a_120, w_120, a_121, w_121, a_122, w_122, a_123, w_123, a_124, w_124, hlen, ej, ej1, ej2, ms, f1, f2, e6]
              rfl
        · rw [if_neg cm, Nat.max_eq_left (Nat.zero_le _)] at hs
          simp only [if_neg cm] at ms
          have e6 := kpC_up (C := C) (A := A) (i := i) (l := l) (v := KP C A (i + 1) l) hl hi (by rw [if_pos hu, hs])
          by_cases c24 : l = 24
          · simp (disch := omega) only [J_add, J_sub, J_mul, J_lt, J_le, J_eq, xbr_true, xbr_false, xbr_pos, xbr_neg, Int.toNat_natCast, all_eq, ex_eq, t_0, q_0_0, q_0_1, q_0_2, q_0_3, q_0_4, q_0_5, q_0_6, q_0_7, q_0_8, q_0_9, i_0_10, p_0_10, i_0_11, p_0_11, i_0_12, p_0_12, t_1, q_1_0, t_3, q_3_0, q_3_1, i_3_2, p_3_2, i_3_3, p_3_3, t_80, q_80_0, t_88, q_88_0, t_90, q_90_0, t_92, q_92_0, q_92_1, q_92_2, i_92_3, p_92_3, i_92_4, p_92_4, t_96, q_96_0, i_96_1, p_96_1, i_96_2, p_96_2, i_96_3, p_96_3, t_100, q_100_0, i_100_1, p_100_1, i_100_2, p_100_2, i_100_3, p_100_3, t_104, q_104_1, q_104_2, q_104_3, q_104_4, q_104_5, q_104_6, q_104_8, q_104_9, q_104_11, q_104_12, q_104_18, q_104_21, q_104_22, q_104_23, q_104_24, q_104_26, q_104_27, q_104_28, q_104_30, q_104_31, i_104_0, p_104_0, i_104_7, p_104_7, i_104_10, p_104_10, i_104_13, p_104_13, i_104_14, p_104_14, i_104_15, p_104_15, i_104_16, p_104_16, i_104_17, p_104_17, i_104_19, p_104_19, i_104_20, p_104_20, i_104_25, p_104_25, i_104_29, p_104_29, a_2, w_2, a_81, w_81, a_89, w_89, a_91, w_91, a_93, w_93, a_94, w_94, a_95, w_95, a_105, w_105, a_106, w_106, a_107, w_107, a_108, w_108, a_109, w_109, a_110, w_110, a_111, w_111, a_112, w_112, a_113, w_113, a_114, w_114, a_115, w_115, a_116, w_116, a_117, w_117, a_118, w_118, a_119, w_119, a_120, w_120, a_121, w_121, a_122, w_122, a_123, w_123, a_124, w_124, hlen, ej, ej1, ej2, ms, f1, f2, e6]
            rfl
          · simp (disch := omega) only [J_add, J_sub, J_mul, J_lt, J_le, J_eq, xbr_true, xbr_false, xbr_pos, xbr_neg, Int.toNat_natCast, all_eq, ex_eq, t_0, q_0_0, q_0_1, q_0_2, q_0_3, q_0_4, q_0_5, q_0_6, q_0_7, q_0_8, q_0_9, i_0_10, p_0_10, i_0_11, p_0_11, i_0_12, p_0_12, t_1, q_1_0, t_3, q_3_0, q_3_1, i_3_2, p_3_2, i_3_3, p_3_3, t_80, q_80_0, t_88, q_88_0, t_90, q_90_0, t_92, q_92_0, q_92_1, q_92_2, i_92_3, p_92_3, i_92_4, p_92_4, t_96, q_96_0, i_96_1, p_96_1, i_96_2, p_96_2, i_96_3, p_96_3, t_100, q_100_0, i_100_1, p_100_1, i_100_2, p_100_2, i_100_3, p_100_3, t_104, q_104_1, q_104_2, q_104_3, q_104_4, q_104_5, q_104_6, q_104_8, q_104_9, q_104_11, q_104_12, q_104_18, q_104_21, q_104_22, q_104_23, q_104_24, q_104_26, q_104_27, q_104_28, q_104_30, q_104_31, i_104_0, p_104_0, i_104_7, p_104_7, i_104_10, p_104_10, i_104_13, p_104_13, i_104_14, p_104_14, i_104_15, p_104_15, i_104_16, p_104_16, i_104_17, p_104_17, i_104_19, p_104_19, i_104_20, p_104_20, i_104_25, p_104_25, i_104_29, p_104_29, a_2, w_2, a_81, w_81, a_89, w_89, a_91, w_91, a_93, w_93, a_94, w_94, a_95, w_95, a_105, w_105, a_106, w_106, a_107, w_107, a_108, w_108, a_109, w_109, a_110, w_110, a_111, w_111, a_112, w_112, a_113, w_113, a_114, w_114, a_115, w_115, a_116, w_116, a_117, w_117, a_118, w_118, a_119, w_119, a_120, w_120, a_121, w_121, a_122, w_122, a_123, w_123, a_124, w_124, hlen, ej, ej1, ej2, ms, f1, f2, e6]
            rfl
    · have e6 := kpC_up (C := C) (A := A) (i := i) (l := l) (v := 0) hl hi (by rw [if_neg hu])
      by_cases ci : i = A.1
      · simp (disch := omega) only [J_add, J_sub, J_mul, J_lt, J_le, J_eq, xbr_true, xbr_false, xbr_pos, xbr_neg, Int.toNat_natCast, all_eq, ex_eq, t_0, q_0_0, q_0_1, q_0_2, q_0_3, q_0_4, q_0_5, q_0_6, q_0_7, q_0_8, q_0_9, i_0_10, p_0_10, i_0_11, p_0_11, i_0_12, p_0_12, t_1, q_1_0, t_3, q_3_0, q_3_1, i_3_2, p_3_2, i_3_3, p_3_3, t_80, q_80_0, t_88, q_88_0, t_90, q_90_0, t_92, q_92_0, q_92_1, q_92_2, i_92_3, p_92_3, i_92_4, p_92_4, t_96, q_96_0, i_96_1, p_96_1, i_96_2, p_96_2, i_96_3, p_96_3, t_100, q_100_0, i_100_1, p_100_1, i_100_2, p_100_2, i_100_3, p_100_3, t_104, q_104_1, q_104_2, q_104_3, q_104_4, q_104_5, q_104_6, q_104_8, q_104_9, q_104_11, q_104_12, q_104_18, q_104_21, q_104_22, q_104_23, q_104_24, q_104_26, q_104_27, q_104_28, q_104_30, q_104_31, i_104_0, p_104_0, i_104_7, p_104_7, i_104_10, p_104_10, i_104_13, p_104_13, i_104_14, p_104_14, i_104_15, p_104_15, i_104_16, p_104_16, i_104_17, p_104_17, i_104_19, p_104_19, i_104_20, p_104_20, i_104_25, p_104_25, i_104_29, p_104_29, a_2, w_2, a_81, w_81, a_89, w_89, a_91, w_91, a_93, w_93, a_94, w_94, a_95, w_95, a_105, w_105, a_106, w_106, a_107, w_107, a_108, w_108, a_109, w_109, a_110, w_110, a_111, w_111, a_112, w_112, a_113, w_113, a_114, w_114, a_115, w_115, a_116, w_116, a_117, w_117, a_118, w_118, a_119, w_119, a_120, w_120, a_121, w_121, a_122, w_122, a_123, w_123, a_124, w_124, hlen, ej, e6]
        rfl
      · simp (disch := omega) only [J_add, J_sub, J_mul, J_lt, J_le, J_eq, xbr_true, xbr_false, xbr_pos, xbr_neg, Int.toNat_natCast, all_eq, ex_eq, t_0, q_0_0, q_0_1, q_0_2, q_0_3, q_0_4, q_0_5, q_0_6, q_0_7, q_0_8, q_0_9, i_0_10, p_0_10, i_0_11, p_0_11, i_0_12, p_0_12, t_1, q_1_0, t_3, q_3_0, q_3_1, i_3_2, p_3_2, i_3_3, p_3_3, t_80, q_80_0, t_88, q_88_0, t_90, q_90_0, t_92, q_92_0, q_92_1, q_92_2, i_92_3, p_92_3, i_92_4, p_92_4, t_96, q_96_0, i_96_1, p_96_1, i_96_2, p_96_2, i_96_3, p_96_3, t_100, q_100_0, i_100_1, p_100_1, i_100_2, p_100_2, i_100_3, p_100_3, t_104, q_104_1, q_104_2, q_104_3, q_104_4, q_104_5, q_104_6, q_104_8, q_104_9, q_104_11, q_104_12, q_104_18, q_104_21, q_104_22, q_104_23, q_104_24, q_104_26, q_104_27, q_104_28, q_104_30, q_104_31, i_104_0, p_104_0, i_104_7, p_104_7, i_104_10, p_104_10, i_104_13, p_104_13, i_104_14, p_104_14, i_104_15, p_104_15, i_104_16, p_104_16, i_104_17, p_104_17, i_104_19, p_104_19, i_104_20, p_104_20, i_104_25, p_104_25, i_104_29, p_104_29, a_2, w_2, a_81, w_81, a_89, w_89, a_91, w_91, a_93, w_93, a_94, w_94, a_95, w_95, a_105, w_105, a_106, w_106, a_107, w_107, a_108, w_108, a_109, w_109, a_110, w_110, a_111, w_111, a_112, w_112, a_113, w_113, a_114, w_114, a_115, w_115, a_116, w_116, a_117, w_117, a_118, w_118, a_119, w_119, a_120, w_120, a_121, w_121, a_122, w_122, a_123, w_123, a_124, w_124, hlen, ej, e6]
        rfl
  · intro kc
    unfold BX11_findWrong_11 CX11_findWrong_11
    simp (disch := omega) only [J_add, J_sub, J_mul, J_lt, J_le, J_eq, xbr_true, xbr_false, xbr_pos, xbr_neg, Int.toNat_natCast, all_eq, ex_eq]
    rw [kpC_row (by omega), Nat.add_sub_cancel]
theorem m_fw151 (k2 : RowM C A) (k3 : RwOk A nb) (hn : nb ≤ 24) (hB : ∀ b, b < nb → BkRel C b) {K : Int32 → Mem → Prop} : lp (BX11_findWrong_151 K (lay z g (kpC C A 0 0)) (ad z 104)) (J 0, J 24, J 0) = K (orS 24 (outB C A)) (lay z g (kpC C A 0 0)) := by
  have l24 := k2.2.1
  have kr : ∀ d l, RowM (kpC C A d l) A := fun d l => k2.fr (by rw [kpC_ne (by omega)]) (kpC_ne (by omega)) (kpC_ne (by omega))
  have kB : ∀ d l b, b < nb → BkRel (kpC C A d l) b := fun d l b hb => (hB b hb).fr (by omega) (fun a _ _ => kpC_ne (by omega)) (fun a _ _ => kpC_ne (by omega))
  have km : ∀ d l a b, may (kpC C A d l) A a b = may C A a b := fun d l a b => by
    unfold may
    rw [aheadC_congr (fun o _ _ => kpC_ne (by omega))]
  have KPl := fun i l => KP_le C A i l
  have e00 : kpC C A (A.1 + 1) 0 = C := by
    funext a j; unfold kpC; rw [if_neg (by omega)]
  have h01 : (J 0, J 24, J 0) = ((fun i : Nat => (outF C A i, J (lst C A i : Nat), J (i : Int))) 0) := rfl
  rw [h01]
  refine lp_for (fun i : Nat => (outF C A i, J (lst C A i : Nat), J (i : Int))) 0 A.1 _ (by omega) ?_ ?_
  · intro i _ hi kc
    have hlen := (kr 0 0).1
    have lb := lst_b C A i
    have ej2 : (25 * ((i : Int) + 1) + (i : Int)).toNat = 25 * (i + 1) + i := by omega
    have ej3 : (25 * (i : Int) + (lst C A i : Int)).toNat = 25 * i + lst C A i := by omega
    have f1 := kpC_at (C := C) (A := A) (d := 0) (l := 0) (i := i) (q := lst C A i) (by omega) (Nat.zero_le _) (by omega) (by omega)
    have f2 := kpC_at (C := C) (A := A) (d := 0) (l := 0) (i := i + 1) (q := i) (by omega) (Nat.zero_le _) (by omega) (by omega)
    have ms := fun K => m_may (z := z) (g := g) (K := K) (kr 0 0) k3 hn (kB 0 0) (l := lst C A i) (i := i) hi (by omega)
    simp only [km] at ms
    have b1 := KPl i (lst C A i)
    have b2 := KPl (i + 1) i
    have ro := (kr 0 0).2.2.1 i hi
    have j222 : JX11_findWrong_202 K kc (lay z g (kpC C A 0 0)) (ad z 104) (outF C A i) (J (lst C A i : Nat)) (J (i : Int)) (J 1) = kc (outF C A i, J (i : Nat), J ((i + 1 : Nat) : Int)) := by
      unfold JX11_findWrong_202 JX11_findWrong_222
      have e9 : outF C A i ||| J 0 = outF C A i := b_ext fun q hq => by rw [b_or, bt_J0, Bool.or_false]
      simp (disch := omega) only [J_add, J_sub, J_mul, J_lt, J_le, J_eq, xbr_true, xbr_false, xbr_pos, xbr_neg, Int.toNat_natCast, all_eq, ex_eq, e9]
      rfl
    have j201 : JX11_findWrong_201 K kc (lay z g (kpC C A 0 0)) (ad z 104) (outF C A i) (J (lst C A i : Nat)) (J (i : Int)) = kc (outF C A i ||| (J 1 <<< (J (A.2.1 i : Nat) &&& 31)), J (lst C A i : Nat), J ((i + 1 : Nat) : Int)) := by
      unfold JX11_findWrong_201 JX11_findWrong_202 JX11_findWrong_222
      simp (disch := omega) only [J_add, J_sub, J_mul, J_lt, J_le, J_eq, xbr_true, xbr_false, xbr_pos, xbr_neg, Int.toNat_natCast, all_eq, ex_eq, t_0, q_0_0, q_0_1, q_0_2, q_0_3, q_0_4, q_0_5, q_0_6, q_0_7, q_0_8, q_0_9, i_0_10, p_0_10, i_0_11, p_0_11, i_0_12, p_0_12, t_1, q_1_0, t_3, q_3_0, q_3_1, i_3_2, p_3_2, i_3_3, p_3_3, t_80, q_80_0, t_88, q_88_0, t_90, q_90_0, t_92, q_92_0, q_92_1, q_92_2, i_92_3, p_92_3, i_92_4, p_92_4, t_96, q_96_0, i_96_1, p_96_1, i_96_2, p_96_2, i_96_3, p_96_3, t_100, q_100_0, i_100_1, p_100_1, i_100_2, p_100_2, i_100_3, p_100_3, t_104, q_104_1, q_104_2, q_104_3, q_104_4, q_104_5, q_104_6, q_104_8, q_104_9, q_104_11, q_104_12, q_104_18, q_104_21, q_104_22, q_104_23, q_104_24, q_104_26, q_104_27, q_104_28, q_104_30, q_104_31, i_104_0, p_104_0, i_104_7, p_104_7, i_104_10, p_104_10, i_104_13, p_104_13, i_104_14, p_104_14, i_104_15, p_104_15, i_104_16, p_104_16, i_104_17, p_104_17, i_104_19, p_104_19, i_104_20, p_104_20, i_104_25, p_104_25, i_104_29, p_104_29, a_2, w_2, a_81, w_81, a_89, w_89, a_91, w_91, a_93, w_93, a_94, w_94, a_95, w_95, a_105, w_105, a_106, w_106, a_107, w_107, a_108, w_108, a_109, w_109, a_110, w_110, a_111, w_111, a_112, w_112, a_113, w_113, a_114, w_114, a_115, w_115, a_116, w_116, a_117, w_117, a_118, w_118, a_119, w_119, a_120, w_120, a_121, w_121, a_122, w_122, a_123, w_123, a_124, w_124, ro]
      rfl
    unfold BX11_findWrong_151 CX11_findWrong_151
    by_cases c0 : stay C A i = true
    · have c1 := c0
      unfold stay at c1
      simp only [Bool.and_eq_true, beq_iff_eq] at c1
      have el : lst C A (i + 1) = i := by rw [lst_s, if_pos c0]
      have eo : outF C A (i + 1) = outF C A i := by
        show (if stay C A i then _ else _) = _
        rw [if_pos c0]
      have c2 := c1.2
      unfold LL at c2
      simp (disch := omega) only [J_add, J_sub, J_mul, J_lt, J_le, J_eq, xbr_true, xbr_false, xbr_pos, xbr_neg, Int.toNat_natCast, all_eq, ex_eq, t_0, q_0_0, q_0_1, q_0_2, q_0_3, q_0_4, q_0_5, q_0_6, q_0_7, q_0_8, q_0_9, i_0_10, p_0_10, i_0_11, p_0_11, i_0_12, p_0_12, t_1, q_1_0, t_3, q_3_0, q_3_1, i_3_2, p_3_2, i_3_3, p_3_3, t_80, q_80_0, t_88, q_88_0, t_90, q_90_0, t_92, q_92_0, q_92_1, q_92_2, i_92_3, p_92_3, i_92_4, p_92_4, t_96, q_96_0, i_96_1, p_96_1, i_96_2, p_96_2, i_96_3, p_96_3, t_100, q_100_0, i_100_1, p_100_1, i_100_2, p_100_2, i_100_3, p_100_3, t_104, q_104_1, q_104_2, q_104_3, q_104_4, q_104_5, q_104_6, q_104_8, q_104_9, q_104_11, q_104_12, q_104_18, q_104_21, q_104_22, q_104_23, q_104_24, q_104_26, q_104_27, q_104_28, q_104_30, q_104_31, i_104_0, p_104_0, i_104_7, p_104_7, i_104_10, p_104_10, i_104_13, p_104_13, i_104_14, p_104_14, i_104_15, p_104_15, i_104_16, p_104_16, i_104_17, p_104_17, i_104_19, p_104_19, i_104_20, p_104_20, i_104_25, p_104_25, i_104_29, p_104_29, a_2, w_2, a_81, w_81, a_89, w_89, a_91, w_91, a_93, w_93, a_94, w_94, a_95, w_95, a_105, w_105, a_106, w_106, a_107, w_107, a_108, w_108, a_109, w_109, a_110, w_110, a_111, w_111, a_112, w_112, a_113, w_113, a_114, w_114, a_115, w_115, a_116, w_116, a_117, w_117, a_118, w_118, a_119, w_119, a_120, w_120, a_121, w_121, a_122, w_122, a_123, w_123, a_124, w_124, hlen, ms, if_pos c1.1, ej2, ej3, f1, f2, j222]
      rw [el, eo]
    · have el : lst C A (i + 1) = lst C A i := by rw [lst_s, if_neg c0]
      have eo : outF C A (i + 1) = outF C A i ||| (J 1 <<< (J (A.2.1 i : Nat) &&& 31)) := by
        show (if stay C A i then _ else _) = _
        rw [if_neg c0]
      unfold stay at c0
      simp only [Bool.and_eq_true, beq_iff_eq] at c0
      by_cases cm : may C A (lst C A i) i = true
      · have c2 : ¬ LL C A i = KP C A i (lst C A i) := fun q => c0 ⟨cm, q⟩
        unfold LL at c2
        simp (disch := omega) only [J_add, J_sub, J_mul, J_lt, J_le, J_eq, xbr_true, xbr_false, xbr_pos, xbr_neg, Int.toNat_natCast, all_eq, ex_eq, t_0, q_0_0, q_0_1, q_0_2, q_0_3, q_0_4, q_0_5, q_0_6, q_0_7, q_0_8, q_0_9, i_0_10, p_0_10, i_0_11, p_0_11, i_0_12, p_0_12, t_1, q_1_0, t_3, q_3_0, q_3_1, i_3_2, p_3_2, i_3_3, p_3_3, t_80, q_80_0, t_88, q_88_0, t_90, q_90_0, t_92, q_92_0, q_92_1, q_92_2, i_92_3, p_92_3, i_92_4, p_92_4, t_96, q_96_0, i_96_1, p_96_1, i_96_2, p_96_2, i_96_3, p_96_3, t_100, q_100_0, i_100_1, p_100_1, i_100_2, p_100_2, i_100_3, p_100_3, t_104, q_104_1, q_104_2, q_104_3, q_104_4, q_104_5, q_104_6, q_104_8, q_104_9, q_104_11, q_104_12, q_104_18, q_104_21, q_104_22, q_104_23, q_104_24, q_104_26, q_104_27, q_104_28, q_104_30, q_104_31, i_104_0, p_104_0, i_104_7, p_104_7, i_104_10, p_104_10, i_104_13, p_104_13, i_104_14, p_104_14, i_104_15, p_104_15, i_104_16, p_104_16, i_104_17, p_104_17, i_104_19, p_104_19, i_104_20, p_104_20, i_104_25, p_104_25, i_104_29, p_104_29, a_2, w_2, a_81, w_81, a_89, w_89, a_91, w_91, a_93, w_93, a_94, w_94, a_95, w_95, a_105, w_105, a_106, w_106, a_107, w_107, a_108, w_108, a_109, w_109, a_110, w_110, a_111, w_111, a_112, w_112, a_113, w_113, a_114, w_114, a_115, w_115, a_116, w_116, a_117, w_117, a_118, w_118, a_119, w_119, a_120, w_120, a_121, w_121, a_122, w_122, a_123, w_123, a_124, w_124, hlen, ms, if_pos cm, ej2, ej3, f1, f2, j201]
        rw [el, eo]
      · simp (disch := omega) only [J_add, J_sub, J_mul, J_lt, J_le, J_eq, xbr_true, xbr_false, xbr_pos, xbr_neg, Int.toNat_natCast, all_eq, ex_eq, t_0, q_0_0, q_0_1, q_0_2, q_0_3, q_0_4, q_0_5, q_0_6, q_0_7, q_0_8, q_0_9, i_0_10, p_0_10, i_0_11, p_0_11, i_0_12, p_0_12, t_1, q_1_0, t_3, q_3_0, q_3_1, i_3_2, p_3_2, i_3_3, p_3_3, t_80, q_80_0, t_88, q_88_0, t_90, q_90_0, t_92, q_92_0, q_92_1, q_92_2, i_92_3, p_92_3, i_92_4, p_92_4, t_96, q_96_0, i_96_1, p_96_1, i_96_2, p_96_2, i_96_3, p_96_3, t_100, q_100_0, i_100_1, p_100_1, i_100_2, p_100_2, i_100_3, p_100_3, t_104, q_104_1, q_104_2, q_104_3, q_104_4, q_104_5, q_104_6, q_104_8, q_104_9, q_104_11, q_104_12, q_104_18, q_104_21, q_104_22, q_104_23, q_104_24, q_104_26, q_104_27, q_104_28, q_104_30, q_104_31, i_104_0, p_104_0, i_104_7, p_104_7, i_104_10, p_104_10, i_104_13, p_104_13, i_104_14, p_104_14, i_104_15, p_104_15, i_104_16, p_104_16, i_104_17, p_104_17, i_104_19, p_104_19, i_104_20, p_104_20, i_104_25, p_104_25, i_104_29, p_104_29, a_2, w_2, a_81, w_81, a_89, w_89, a_91, w_91, a_93, w_93, a_94, w_94, a_95, w_95, a_105, w_105, a_106, w_106, a_107, w_107, a_108, w_108, a_109, w_109, a_110, w_110, a_111, w_111, a_112, w_112, a_113, w_113, a_114, w_114, a_115, w_115, a_116, w_116, a_117, w_117, a_118, w_118, a_119, w_119, a_120, w_120, a_121, w_121, a_122, w_122, a_123, w_123, a_124, w_124, hlen, ms, if_neg cm, j201]
        rw [el, eo]
  · intro kc
    have hlen := (kr 0 0).1
    unfold BX11_findWrong_151 CX11_findWrong_151
    simp (disch := omega) only [J_add, J_sub, J_mul, J_lt, J_le, J_eq, xbr_true, xbr_false, xbr_pos, xbr_neg, Int.toNat_natCast, all_eq, ex_eq, t_0, q_0_0, q_0_1, q_0_2, q_0_3, q_0_4, q_0_5, q_0_6, q_0_7, q_0_8, q_0_9, i_0_10, p_0_10, i_0_11, p_0_11, i_0_12, p_0_12, t_1, q_1_0, t_3, q_3_0, q_3_1, i_3_2, p_3_2, i_3_3, p_3_3, t_80, q_80_0, t_88, q_88_0, t_90, q_90_0, t_92, q_92_0, q_92_1, q_92_2, i_92_3, p_92_3, i_92_4, p_92_4, t_96, q_96_0, i_96_1, p_96_1, i_96_2, p_96_2, i_96_3, p_96_3, t_100, q_100_0, i_100_1, p_100_1, i_100_2, p_100_2, i_100_3, p_100_3, t_104, q_104_1, q_104_2, q_104_3, q_104_4, q_104_5, q_104_6, q_104_8, q_104_9, q_104_11, q_104_12, q_104_18, q_104_21, q_104_22, q_104_23, q_104_24, q_104_26, q_104_27, q_104_28, q_104_30, q_104_31, i_104_0, p_104_0, i_104_7, p_104_7, i_104_10, p_104_10, i_104_13, p_104_13, i_104_14, p_104_14, i_104_15, p_104_15, i_104_16, p_104_16, i_104_17, p_104_17, i_104_19, p_104_19, i_104_20, p_104_20, i_104_25, p_104_25, i_104_29, p_104_29, a_2, w_2, a_81, w_81, a_89, w_89, a_91, w_91, a_93, w_93, a_94, w_94, a_95, w_95, a_105, w_105, a_106, w_106, a_107, w_107, a_108, w_108, a_109, w_109, a_110, w_110, a_111, w_111, a_112, w_112, a_113, w_113, a_114, w_114, a_115, w_115, a_116, w_116, a_117, w_117, a_118, w_118, a_119, w_119, a_120, w_120, a_121, w_121, a_122, w_122, a_123, w_123, a_124, w_124, hlen]
    rw [outF_orS C k3 hn]
theorem m_findWrong {K : Int32 → Mem → Prop} (k2 : RowM C A) (k3 : RwOk A nb) (hn : nb ≤ 24) (hB : ∀ b, b < nb → BkRel C b) : PX11_findWrong (ad z 104) (lay z g C) K = K (orS 24 (outB C A)) (lay z g (kpC C A 0 0)) := by
  have l24 := k2.2.1
  have kr : ∀ d l, RowM (kpC C A d l) A := fun d l => k2.fr (by rw [kpC_ne (by omega)]) (kpC_ne (by omega)) (kpC_ne (by omega))
  have kB : ∀ d l b, b < nb → BkRel (kpC C A d l) b := fun d l b hb => (hB b hb).fr (by omega) (fun a _ _ => kpC_ne (by omega)) (fun a _ _ => kpC_ne (by omega))
  have km : ∀ d l a b, may (kpC C A d l) A a b = may C A a b := fun d l a b => by
    unfold may
    rw [aheadC_congr (fun o _ _ => kpC_ne (by omega))]
  have KPl := fun i l => KP_le C A i l
  have e00 : kpC C A (A.1 + 1) 0 = C := by
    funext a j; unfold kpC; rw [if_neg (by omega)]
  have hlen := k2.1
  unfold PX11_findWrong
  simp (disch := omega) only [J_add, J_sub, J_mul, J_lt, J_le, J_eq, xbr_true, xbr_false, xbr_pos, xbr_neg, Int.toNat_natCast, all_eq, ex_eq, t_0, q_0_0, q_0_1, q_0_2, q_0_3, q_0_4, q_0_5, q_0_6, q_0_7, q_0_8, q_0_9, i_0_10, p_0_10, i_0_11, p_0_11, i_0_12, p_0_12, t_1, q_1_0, t_3, q_3_0, q_3_1, i_3_2, p_3_2, i_3_3, p_3_3, t_80, q_80_0, t_88, q_88_0, t_90, q_90_0, t_92, q_92_0, q_92_1, q_92_2, i_92_3, p_92_3, i_92_4, p_92_4, t_96, q_96_0, i_96_1, p_96_1, i_96_2, p_96_2, i_96_3, p_96_3, t_100, q_100_0, i_100_1, p_100_1, i_100_2, p_100_2, i_100_3, p_100_3, t_104, q_104_1, q_104_2, q_104_3, q_104_4, q_104_5, q_104_6, q_104_8, q_104_9, q_104_11, q_104_12, q_104_18, q_104_21, q_104_22, q_104_23, q_104_24, q_104_26, q_104_27, q_104_28, q_104_30, q_104_31, i_104_0, p_104_0, i_104_7, p_104_7, i_104_10, p_104_10, i_104_13, p_104_13, i_104_14, p_104_14, i_104_15, p_104_15, i_104_16, p_104_16, i_104_17, p_104_17, i_104_19, p_104_19, i_104_20, p_104_20, i_104_25, p_104_25, i_104_29, p_104_29, a_2, w_2, a_81, w_81, a_89, w_89, a_91, w_91, a_93, w_93, a_94, w_94, a_95, w_95, a_105, w_105, a_106, w_106, a_107, w_107, a_108, w_108, a_109, w_109, a_110, w_110, a_111, w_111, a_112, w_112, a_113, w_113, a_114, w_114, a_115, w_115, a_116, w_116, a_117, w_117, a_118, w_118, a_119, w_119, a_120, w_120, a_121, w_121, a_122, w_122, a_123, w_123, a_124, w_124, hlen]
  have h00 : (lay z g C, J (A.1 : Int)) = ((fun t : Nat => (lay z g (kpC C A (A.1 + 1 - t) 0), J ((A.1 : Int) - (t : Int)))) 0) := by
    show _ = (lay z g (kpC C A (A.1 + 1 - 0) 0), J ((A.1 : Int) - ((0 : Nat) : Int)))
    rw [Nat.sub_zero, e00]; simp
  rw [h00]
  refine lp_for (fun t : Nat => (lay z g (kpC C A (A.1 + 1 - t) 0), J ((A.1 : Int) - (t : Int)))) 0 (A.1 + 1) _ (by omega) ?_ ?_
  · intro t _ ht kc
    obtain ⟨i, hi⟩ : ∃ i : Nat, i = A.1 - t := ⟨_, rfl⟩
    have ei : (A.1 : Int) - (t : Int) = (i : Int) := by omega
    have et : A.1 + 1 - t = i + 1 := by omega
    have et2 : A.1 + 1 - (t + 1) = i := by omega
    have e7 : (i : Int) + -1 = (A.1 : Int) - ((t + 1 : Nat) : Int) := by omega
    unfold BX11_findWrong_5 CX11_findWrong_5
    simp only [ei, et, et2, ← e7]
    simp (disch := omega) only [J_add, J_sub, J_mul, J_lt, J_le, J_eq, xbr_true, xbr_false, xbr_pos, xbr_neg, Int.toNat_natCast, all_eq, ex_eq]
    rw [m_fw11 k2 k3 hn hB kc (by omega)]
  · intro kc
    unfold BX11_findWrong_5 CX11_findWrong_5
    simp only [Nat.sub_self]
    simp (disch := omega) only [J_add, J_sub, J_mul, J_lt, J_le, J_eq, xbr_true, xbr_false, xbr_pos, xbr_neg, Int.toNat_natCast, all_eq, ex_eq]
    exact m_fw151 k2 k3 hn hB
end WRONG
