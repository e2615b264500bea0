/-! THE SEARCH -/
theorem getD_appN {l : List Nat} {c : Nat} {j : Nat} : (l ++ [c]).getD j 0 = if j < l.length then l.getD j 0 else if j = l.length then c else 0 := by
  by_cases h : j < l.length
  · rw [if_pos h]
    simp [List.getD_eq_getElem?_getD, List.getElem?_append, h]
  · rw [if_neg h]
    by_cases h2 : j = l.length
    · rw [if_pos h2]
      simp [List.getD_eq_getElem?_getD, List.getElem?_append, h2]
    · rw [if_neg h2]
      have h3 : j - l.length ≠ 0 := by omega
      obtain ⟨d, hd⟩ : ∃ d, j - l.length = d + 1 := ⟨j - l.length - 1, by omega⟩
      simp [List.getD_eq_getElem?_getD, List.getElem?_append, h, hd]
/-- the shelves below m that one may be led to -/
def tlL (ch : Nat → Int) : Nat → List Nat
  | 0 => []
  | m + 1 => if 0 < ch m then tlL ch m ++ [m] else tlL ch m
section TLL
variable {ch : Nat → Int}
theorem tlL_ok (m : Nat) : (∀ i j, i < j → j < (tlL ch m).length → (tlL ch m).getD i 0 < (tlL ch m).getD j 0) ∧ (∀ i, i < (tlL ch m).length → (tlL ch m).getD i 0 < m ∧ 0 < ch ((tlL ch m).getD i 0)) ∧ (tlL ch m).length = cnt m (fun s => decide (0 < ch s)) := by
  induction m with
  | zero => exact ⟨fun i j _ h => absurd h (Nat.not_lt_zero _), fun i h => absurd h (Nat.not_lt_zero _), rfl⟩
  | succ m ih =>
    obtain ⟨i1, i2, i3⟩ := ih
    have ec : cnt (m + 1) (fun s => decide (0 < ch s)) = cnt m (fun s => decide (0 < ch s)) + (if decide (0 < ch m) = true then 1 else 0) := rfl
    by_cases c : 0 < ch m
    · have e : tlL ch (m + 1) = tlL ch m ++ [m] := if_pos c
      rw [e, ec, if_pos (decide_eq_true c)]
      refine ⟨fun i j hij hj => ?_, fun i hi => ?_, by simp [i3]⟩
      · simp only [List.length_append, List.length_cons, List.length_nil] at hj
        rw [getD_appN, getD_appN, if_pos (by omega)]
        by_cases q : j < (tlL ch m).length
        · rw [if_pos q]; exact i1 i j hij q
        · rw [if_neg q, if_pos (by omega)]
          exact (i2 i (by omega)).1
      · simp only [List.length_append, List.length_cons, List.length_nil] at hi
        rw [getD_appN]
        by_cases q : i < (tlL ch m).length
        · rw [if_pos q]
          have := i2 i q
          exact ⟨by omega, this.2⟩
        · rw [if_neg q, if_pos (by omega)]
          exact ⟨by omega, c⟩
    · have e : tlL ch (m + 1) = tlL ch m := if_neg c
      rw [e, ec, if_neg (by simpa using c)]
      exact ⟨i1, fun i hi => ⟨by have := (i2 i hi).1; omega, (i2 i hi).2⟩, i3⟩
theorem tlL_mono {a b : Nat} (h : a ≤ b) : (tlL ch a).length ≤ (tlL ch b).length := by
  induction b with
  | zero => have : a = 0 := by omega
            rw [this]; exact Nat.le_refl _
  | succ b ih =>
    rcases Nat.lt_or_ge a (b + 1) with c | c
    · have h1 := ih (by omega)
      show _ ≤ (if 0 < ch b then tlL ch b ++ [b] else tlL ch b).length
      split
      · simp; omega
      · exact h1
    · have : a = b + 1 := by omega
      rw [this]; exact Nat.le_refl _
end TLL
/-- at most n values -/
def anyB (f : Nat → Nat) : Nat → Nat → Bool
  | 0, _ => false
  | n + 1, s => anyB f n s || (f n == s)
theorem cnt_or (m : Nat) (f g : Nat → Bool) : cnt m (fun s => f s || g s) ≤ cnt m f + cnt m g := by
  induction m with
  | zero => exact Nat.le_refl _
  | succ m ih =>
    show cnt m (fun s => f s || g s) + (if (f m || g m) = true then 1 else 0) ≤ (cnt m f + (if f m = true then 1 else 0)) + (cnt m g + (if g m = true then 1 else 0))
    cases hf : f m <;> cases hg : g m <;> simp <;> omega
theorem cnt_one (m a : Nat) : cnt m (fun s => a == s) ≤ 1 ∧ (m ≤ a → cnt m (fun s => a == s) = 0) := by
  induction m with
  | zero => exact ⟨Nat.zero_le _, fun _ => rfl⟩
  | succ m ih =>
    have e : cnt (m + 1) (fun s => a == s) = cnt m (fun s => a == s) + (if (a == m) = true then 1 else 0) := rfl
    rw [e]
    by_cases c : a = m
    · rw [if_pos (by simpa using c), ih.2 (by omega)]
      exact ⟨by omega, fun h => by omega⟩
    · rw [if_neg (by simpa using c)]
      exact ⟨by omega, fun h => by rw [ih.2 (by omega)]⟩
theorem cnt_any (m : Nat) (f : Nat → Nat) (n : Nat) : cnt m (anyB f n) ≤ n := by
  induction n with
  | zero => exact Nat.le_of_eq (cnt_none (fun i _ => rfl))
  | succ n ih =>
    have h := cnt_or m (anyB f n) (fun s => f n == s)
    have h1 := (cnt_one m (f n)).1
    have e : cnt m (anyB f (n + 1)) = cnt m (fun s => anyB f n s || (f n == s)) := rfl
    omega
theorem cnt_mono (m : Nat) {f g : Nat → Bool} (h : ∀ i, i < m → f i = true → g i = true) : cnt m f ≤ cnt m g := by
  induction m with
  | zero => exact Nat.le_refl _
  | succ m ih =>
    have h1 := ih (fun i hi => h i (by omega))
    have h2 := h m (by omega)
    show cnt m f + (if f m = true then 1 else 0) ≤ cnt m g + (if g m = true then 1 else 0)
    by_cases c : f m = true
    · rw [if_pos c, if_pos (h2 c)]; omega
    · rw [if_neg c]; omega
theorem anyB_of {f : Nat → Nat} {n s k : Nat} (hk : k < n) (h : f k = s) : anyB f n s = true := by
  induction n with
  | zero => omega
  | succ n ih =>
    show (anyB f n s || (f n == s)) = true
    by_cases c : k = n
    · rw [← c, h]; simp
    · rw [ih (by omega)]; rfl
theorem sumZ_pos {f : Nat → Int} {n : Nat} (h : ∀ k, k < n → f k = 0) : sumZ f n = 0 := by
  rw [sumZ_congr (g := fun _ => 0) h, sumZ_zero]
theorem led_five {H : Nat → Int} {C : Nat → Nat → Int} {A : Rw} {b : Nat} (m : Nat) : cnt m (fun s => decide (0 < chA H C A b s)) ≤ 5 := by
  refine Nat.le_trans (cnt_mono m (g := anyB (fun k => spotS A (spotA C A b (k : Nat))) 5) fun s _ hs => ?_) (cnt_any m _ 5)
  have h1 : 0 < chA H C A b s := of_decide_eq_true hs
  by_cases c : ∃ k, k < 5 ∧ spotS A (spotA C A b (k : Nat)) = s
  · obtain ⟨k, hk, e⟩ := c
    exact anyB_of hk e
  · exfalso
    have h2 : sumZ (ledF H C A b s) 5 = 0 := sumZ_pos fun k hk => by
      unfold ledF
      rw [if_neg (fun q => c ⟨k, hk, q⟩)]
    unfold chA at h1
    rw [h2] at h1
    split at h1
    · omega
    · simp at h1
theorem chA_congr {H H' : Nat → Int} {C C' : Nat → Nat → Int} {A : Rw} {b s : Nat} (h : ∀ o, 5 ≤ o → o ≤ 79 → C' o = C o) (hH : ∀ k, k < 5 → H' k = H k) : chA H' C' A b s = chA H C A b s := by
  unfold chA
  have e : ∀ k, k < 5 → ledF H' C' A b s k = ledF H C A b s k := fun k hk => by
    unfold ledF; rw [spotA_congr h, hH k hk]
  rw [sumZ_congr hH, sumZ_congr e]
/-- sum, steps and place after i shelves -/
def cwT (ch : Nat → Int) (on v : Nat → Nat) : Nat → Int × Int × Nat
  | 0 => (0, 0, 0)
  | i + 1 => ((cwT ch on v i).1 + ch (v i) * ((cwT ch on v i).2.1 + ((if (cwT ch on v i).2.2 ≤ v i then (v i : Int) - (cwT ch on v i).2.2 else ((cwT ch on v i).2.2 : Int) - v i) + (if 1 < on (v i) then (on (v i) : Int) else 1))), (cwT ch on v i).2.1 + ((if (cwT ch on v i).2.2 ≤ v i then (v i : Int) - (cwT ch on v i).2.2 else ((cwT ch on v i).2.2 : Int) - v i) + (if 1 < on (v i) then (on (v i) : Int) else 1)), v i)
theorem cwT_b {ch : Nat → Int} {on v : Nat → Nat} {n : Nat} (hc : ∀ s, s < 8 → 0 ≤ ch s ∧ ch s ≤ 1000000) (ho : ∀ s, s < 8 → on s ≤ 24) (hv : ∀ i, i < n → v i < 8) (hn : n ≤ 5) : ∀ i, i ≤ n → (0 ≤ (cwT ch on v i).1 ∧ (cwT ch on v i).1 ≤ 155000000 * i) ∧ (0 ≤ (cwT ch on v i).2.1 ∧ (cwT ch on v i).2.1 ≤ 31 * i) ∧ (cwT ch on v i).2.2 < 8 := by
  intro i
  induction i with
  | zero => exact fun _ => ⟨⟨Int.le_refl _, Int.le_refl _⟩, ⟨Int.le_refl _, Int.le_refl _⟩, by show 0 < 8; omega⟩
  | succ i ih =>
    intro hi
    obtain ⟨i1, i2, i3⟩ := ih (by omega)
    have h1 := hv i (by omega)
    have h2 := hc _ h1
    have h3 := ho _ h1
    have hs : 0 ≤ (cwT ch on v i).2.1 + ((if (cwT ch on v i).2.2 ≤ v i then (v i : Int) - (cwT ch on v i).2.2 else ((cwT ch on v i).2.2 : Int) - v i) + (if 1 < on (v i) then (on (v i) : Int) else 1)) ∧ (cwT ch on v i).2.1 + ((if (cwT ch on v i).2.2 ≤ v i then (v i : Int) - (cwT ch on v i).2.2 else ((cwT ch on v i).2.2 : Int) - v i) + (if 1 < on (v i) then (on (v i) : Int) else 1)) ≤ 31 * ((i + 1 : Nat) : Int) := by
      split <;> split <;> omega
    have e1 : (cwT ch on v (i + 1)).1 = (cwT ch on v i).1 + ch (v i) * (cwT ch on v (i + 1)).2.1 := rfl
    have e2 : 0 ≤ (cwT ch on v (i + 1)).2.1 ∧ (cwT ch on v (i + 1)).2.1 ≤ 31 * ((i + 1 : Nat) : Int) := hs
    have e3 : (cwT ch on v (i + 1)).2.2 = v i := rfl
    rw [e1, e3]
    generalize (cwT ch on v (i + 1)).2.1 = st at *
    have m1 : 0 ≤ ch (v i) * st := Int.mul_nonneg h2.1 e2.1
    have m2 : ch (v i) * st ≤ 1000000 * 155 := Int.mul_le_mul h2.2 (by omega) e2.1 (by omega)
    exact ⟨⟨by omega, by omega⟩, e2, h1⟩
section SRC
variable {z : Nat} {g : Mem} {C C' D : Nat → Nat → Int} {nb n : Nat} {A : Rw} {l : List Nat} {τ : Nat → Nat} {ch : Nat → Int}
def cst (ch : Nat → Int) (on : Nat → Nat) (τ : Nat → Nat) (n : Nat) (l : List Nat) : Int := (cwT ch on (fun i => τ (l.getD i 0)) n).1 / 1000
theorem s_cost {K : Int32 → Prop} (hT : TaI n τ) (h : TrI D 94 n τ l) (hn : D 92 3 = n) (hc : ∀ s, s < 8 → 0 ≤ ch s ∧ ch s ≤ 1000000) (h93 : ∀ s, s < 8 → D 93 s = ch s) (k1 : RowC D 82 A) (k3 : RwOk A nb) (hnb : nb ≤ 24) : PX7_costOfTour (ad z 92) (ad z 82) (lay z g D) K = K (J (cst ch A.2.2 τ n l)) := by
  obtain ⟨h1, h2, h3⟩ := h
  have n5 := hT.1
  have l24 := k1.len
  have hon : ∀ s, s < 8 → A.2.2 s ≤ 24 := fun s hs => by
    have := on_le k3 (s := s + 1) (by omega)
    have e : sumN A.2.2 (s + 1) = sumN A.2.2 s + A.2.2 s := rfl
    omega
  have hv : ∀ i, i < n → τ (l.getD i 0) < 8 := fun i hi => hT.2.2 _ (h2 i hi)
  have bd := cwT_b (v := fun i => τ (l.getD i 0)) hc hon hv n5
  unfold PX7_costOfTour
  simp (disch := omega) only [J_add, J_sub, J_mul, J_lt, J_le, J_eq, xbr_true, xbr_false, xbr_pos, xbr_neg, Int.toNat_natCast, all_eq, ex_eq, t_0, q_0_0, q_0_1, q_0_2, q_0_3, q_0_4, q_0_5, q_0_6, q_0_7, q_0_8, q_0_9, i_0_10, p_0_10, i_0_11, p_0_11, i_0_12, p_0_12, t_1, q_1_0, t_3, q_3_0, q_3_1, i_3_2, p_3_2, i_3_3, p_3_3, t_80, q_80_0, t_88, q_88_0, t_90, q_90_0, t_92, q_92_0, q_92_1, q_92_2, i_92_3, p_92_3, i_92_4, p_92_4, t_96, q_96_0, i_96_1, p_96_1, i_96_2, p_96_2, i_96_3, p_96_3, t_100, q_100_0, i_100_1, p_100_1, i_100_2, p_100_2, i_100_3, p_100_3, t_104, q_104_1, q_104_2, q_104_3, q_104_4, q_104_5, q_104_6, q_104_8, q_104_9, q_104_11, q_104_12, q_104_18, q_104_21, q_104_22, q_104_23, q_104_24, q_104_26, q_104_27, q_104_28, q_104_30, q_104_31, i_104_0, p_104_0, i_104_7, p_104_7, i_104_10, p_104_10, i_104_13, p_104_13, i_104_14, p_104_14, i_104_15, p_104_15, i_104_16, p_104_16, i_104_17, p_104_17, i_104_19, p_104_19, i_104_20, p_104_20, i_104_25, p_104_25, i_104_29, p_104_29, a_2, w_2, a_81, w_81, a_89, w_89, a_91, w_91, a_93, w_93, a_94, w_94, a_95, w_95, a_105, w_105, a_106, w_106, a_107, w_107, a_108, w_108, a_109, w_109, a_110, w_110, a_111, w_111, a_112, w_112, a_113, w_113, a_114, w_114, a_115, w_115, a_116, w_116, a_117, w_117, a_118, w_118, a_119, w_119, a_120, w_120, a_121, w_121, a_122, w_122, a_123, w_123, a_124, w_124]
  refine lp_for (fun i : Nat => (J ((cwT ch A.2.2 (fun i => τ (l.getD i 0)) i).2.2 : Nat), J (cwT ch A.2.2 (fun i => τ (l.getD i 0)) i).2.1, J (cwT ch A.2.2 (fun i => τ (l.getD i 0)) i).1, J (i : Int))) 0 n _ (by omega) ?_ ?_
  · intro i _ hi kc
    have b1 := bd i (by omega)
    have b2 := bd (i + 1) (by omega)
    have e1 : (cwT ch A.2.2 (fun i => τ (l.getD i 0)) (i + 1)).1 = (cwT ch A.2.2 (fun i => τ (l.getD i 0)) i).1 + ch (τ (l.getD i 0)) * (cwT ch A.2.2 (fun i => τ (l.getD i 0)) (i + 1)).2.1 := rfl
    have e2 : (cwT ch A.2.2 (fun i => τ (l.getD i 0)) (i + 1)).2.1 = (cwT ch A.2.2 (fun i => τ (l.getD i 0)) i).2.1 + ((if (cwT ch A.2.2 (fun i => τ (l.getD i 0)) i).2.2 ≤ τ (l.getD i 0) then (τ (l.getD i 0) : Int) - (cwT ch A.2.2 (fun i => τ (l.getD i 0)) i).2.2 else ((cwT ch A.2.2 (fun i => τ (l.getD i 0)) i).2.2 : Int) - τ (l.getD i 0)) + (if 1 < A.2.2 (τ (l.getD i 0)) then (A.2.2 (τ (l.getD i 0)) : Int) else 1)) := rfl
    have e3 : (cwT ch A.2.2 (fun i => τ (l.getD i 0)) (i + 1)).2.2 = τ (l.getD i 0) := rfl
    have v8 := hv i hi
    have d94 := h3 i hi
    rw [e3, e1]
    generalize (cwT ch A.2.2 (fun i => τ (l.getD i 0)) (i + 1)).2.1 = st' at *
    generalize (cwT ch A.2.2 (fun i => τ (l.getD i 0)) (i + 1)).1 = su' at *
    generalize (cwT ch A.2.2 (fun i => τ (l.getD i 0)) i).1 = su at *
    generalize (cwT ch A.2.2 (fun i => τ (l.getD i 0)) i).2.1 = st at *
    generalize (cwT ch A.2.2 (fun i => τ (l.getD i 0)) i).2.2 = at0 at *
    generalize τ (l.getD i 0) = s at *
    have am := k1.amount k3 hnb v8
    have on1 := hon s v8
    have c93 := h93 s v8
    have ei : (i : Int) + 1 = ((i + 1 : Nat) : Int) := by omega
    unfold BX7_costOfTour_10 CX7_costOfTour_10
    by_cases c1 : at0 ≤ s
    · have c1' : (0 : Int) ≤ (s : Int) - (at0 : Int) := by omega
      by_cases c2 : 1 < A.2.2 s
      · have c2' : (1 : Int) < (A.2.2 s : Int) := by omega
        rw [if_pos c1, if_pos c2] at e2
        simp (disch := omega) only [J_add, J_sub, J_mul, J_lt, J_le, J_eq, xbr_true, xbr_false, xbr_pos, xbr_neg, Int.toNat_natCast, all_eq, ex_eq, t_0, q_0_0, q_0_1, q_0_2, q_0_3, q_0_4, q_0_5, q_0_6, q_0_7, q_0_8, q_0_9, i_0_10, p_0_10, i_0_11, p_0_11, i_0_12, p_0_12, t_1, q_1_0, t_3, q_3_0, q_3_1, i_3_2, p_3_2, i_3_3, p_3_3, t_80, q_80_0, t_88, q_88_0, t_90, q_90_0, t_92, q_92_0, q_92_1, q_92_2, i_92_3, p_92_3, i_92_4, p_92_4, t_96, q_96_0, i_96_1, p_96_1, i_96_2, p_96_2, i_96_3, p_96_3, t_100, q_100_0, i_100_1, p_100_1, i_100_2, p_100_2, i_100_3, p_100_3, t_104, q_104_1, q_104_2, q_104_3, q_104_4, q_104_5, q_104_6, q_104_8, q_104_9, q_104_11, q_104_12, q_104_18, q_104_21, q_104_22, q_104_23, q_104_24, q_104_26, q_104_27, q_104_28, q_104_30, q_104_31, i_104_0, p_104_0, i_104_7, p_104_7, i_104_10, p_104_10, i_104_13, p_104_13, i_104_14, p_104_14, i_104_15, p_104_15, i_104_16, p_104_16, i_104_17, p_104_17, i_104_19, p_104_19, i_104_20, p_104_20, i_104_25, p_104_25, i_104_29, p_104_29, a_2, w_2, a_81, w_81, a_89, w_89, a_91, w_91, a_93, w_93, a_94, w_94, a_95, w_95, a_105, w_105, a_106, w_106, a_107, w_107, a_108, w_108, a_109, w_109, a_110, w_110, a_111, w_111, a_112, w_112, a_113, w_113, a_114, w_114, a_115, w_115, a_116, w_116, a_117, w_117, a_118, w_118, a_119, w_119, a_120, w_120, a_121, w_121, a_122, w_122, a_123, w_123, a_124, w_124, hn, s_ent8 (o := 94) rfl (show i < 8 by omega), d94, s_amount r82 k1.2.2.2.2, am, s_ent8 (o := 93) rfl v8, c93, J0, if_pos c1', if_pos c2', ei, ← e2]
      · have c2' : ¬ (1 : Int) < (A.2.2 s : Int) := by omega
        rw [if_pos c1, if_neg c2] at e2
        simp (disch := omega) only [J_add, J_sub, J_mul, J_lt, J_le, J_eq, xbr_true, xbr_false, xbr_pos, xbr_neg, Int.toNat_natCast, all_eq, ex_eq, t_0, q_0_0, q_0_1, q_0_2, q_0_3, q_0_4, q_0_5, q_0_6, q_0_7, q_0_8, q_0_9, i_0_10, p_0_10, i_0_11, p_0_11, i_0_12, p_0_12, t_1, q_1_0, t_3, q_3_0, q_3_1, i_3_2, p_3_2, i_3_3, p_3_3, t_80, q_80_0, t_88, q_88_0, t_90, q_90_0, t_92, q_92_0, q_92_1, q_92_2, i_92_3, p_92_3, i_92_4, p_92_4, t_96, q_96_0, i_96_1, p_96_1, i_96_2, p_96_2, i_96_3, p_96_3, t_100, q_100_0, i_100_1, p_100_1, i_100_2, p_100_2, i_100_3, p_100_3, t_104, q_104_1, q_104_2, q_104_3, q_104_4, q_104_5, q_104_6, q_104_8, q_104_9, q_104_11, q_104_12, q_104_18, q_104_21, q_104_22, q_104_23, q_104_24, q_104_26, q_104_27, q_104_28, q_104_30, q_104_31, i_104_0, p_104_0, i_104_7, p_104_7, i_104_10, p_104_10, i_104_13, p_104_13, i_104_14, p_104_14, i_104_15, p_104_15, i_104_16, p_104_16, i_104_17, p_104_17, i_104_19, p_104_19, i_104_20, p_104_20, i_104_25, p_104_25, i_104_29, p_104_29, a_2, w_2, a_81, w_81, a_89, w_89, a_91, w_91, a_93, w_93, a_94, w_94, a_95, w_95, a_105, w_105, a_106, w_106, a_107, w_107, a_108, w_108, a_109, w_109, a_110, w_110, a_111, w_111, a_112, w_112, a_113, w_113, a_114, w_114, a_115, w_115, a_116, w_116, a_117, w_117, a_118, w_118, a_119, w_119, a_120, w_120, a_121, w_121, a_122, w_122, a_123, w_123, a_124, w_124, hn, s_ent8 (o := 94) rfl (show i < 8 by omega), d94, s_amount r82 k1.2.2.2.2, am, s_ent8 (o := 93) rfl v8, c93, J0, if_pos c1', if_neg c2', ei, ← e2]
    · have c1' : ¬ (0 : Int) ≤ (s : Int) - (at0 : Int) := by omega
      have c3 : (0 : Int) - ((s : Int) - (at0 : Int)) = (at0 : Int) - (s : Int) := by omega
      by_cases c2 : 1 < A.2.2 s
      · have c2' : (1 : Int) < (A.2.2 s : Int) := by omega
        rw [if_neg c1, if_pos c2] at e2
        simp (disch := omega) only [J_add, J_sub, J_mul, J_lt, J_le, J_eq, xbr_true, xbr_false, xbr_pos, xbr_neg, Int.toNat_natCast, all_eq, ex_eq, t_0, q_0_0, q_0_1, q_0_2, q_0_3, q_0_4, q_0_5, q_0_6, q_0_7, q_0_8, q_0_9, i_0_10, p_0_10, i_0_11, p_0_11, i_0_12, p_0_12, t_1, q_1_0, t_3, q_3_0, q_3_1, i_3_2, p_3_2, i_3_3, p_3_3, t_80, q_80_0, t_88, q_88_0, t_90, q_90_0, t_92, q_92_0, q_92_1, q_92_2, i_92_3, p_92_3, i_92_4, p_92_4, t_96, q_96_0, i_96_1, p_96_1, i_96_2, p_96_2, i_96_3, p_96_3, t_100, q_100_0, i_100_1, p_100_1, i_100_2, p_100_2, i_100_3, p_100_3, t_104, q_104_1, q_104_2, q_104_3, q_104_4, q_104_5, q_104_6, q_104_8, q_104_9, q_104_11, q_104_12, q_104_18, q_104_21, q_104_22, q_104_23, q_104_24, q_104_26, q_104_27, q_104_28, q_104_30, q_104_31, i_104_0, p_104_0, i_104_7, p_104_7, i_104_10, p_104_10, i_104_13, p_104_13, i_104_14, p_104_14, i_104_15, p_104_15, i_104_16, p_104_16, i_104_17, p_104_17, i_104_19, p_104_19, i_104_20, p_104_20, i_104_25, p_104_25, i_104_29, p_104_29, a_2, w_2, a_81, w_81, a_89, w_89, a_91, w_91, a_93, w_93, a_94, w_94, a_95, w_95, a_105, w_105, a_106, w_106, a_107, w_107, a_108, w_108, a_109, w_109, a_110, w_110, a_111, w_111, a_112, w_112, a_113, w_113, a_114, w_114, a_115, w_115, a_116, w_116, a_117, w_117, a_118, w_118, a_119, w_119, a_120, w_120, a_121, w_121, a_122, w_122, a_123, w_123, a_124, w_124, hn, s_ent8 (o := 94) rfl (show i < 8 by omega), d94, s_amount r82 k1.2.2.2.2, am, s_ent8 (o := 93) rfl v8, c93, J0, if_neg c1', if_pos c2', ei, c3, ← e2]
      · have c2' : ¬ (1 : Int) < (A.2.2 s : Int) := by omega
        rw [if_neg c1, if_neg c2] at e2
        simp (disch := omega) only [J_add, J_sub, J_mul, J_lt, J_le, J_eq, xbr_true, xbr_false, xbr_pos, xbr_neg, Int.toNat_natCast, all_eq, ex_eq, t_0, q_0_0, q_0_1, q_0_2, q_0_3, q_0_4, q_0_5, q_0_6, q_0_7, q_0_8, q_0_9, i_0_10, p_0_10, i_0_11, p_0_11, i_0_12, p_0_12, t_1, q_1_0, t_3, q_3_0, q_3_1, i_3_2, p_3_2, i_3_3, p_3_3, t_80, q_80_0, t_88, q_88_0, t_90, q_90_0, t_92, q_92_0, q_92_1, q_92_2, i_92_3, p_92_3, i_92_4, p_92_4, t_96, q_96_0, i_96_1, p_96_1, i_96_2, p_96_2, i_96_3, p_96_3, t_100, q_100_0, i_100_1, p_100_1, i_100_2, p_100_2, i_100_3, p_100_3, t_104, q_104_1, q_104_2, q_104_3, q_104_4, q_104_5, q_104_6, q_104_8, q_104_9, q_104_11, q_104_12, q_104_18, q_104_21, q_104_22, q_104_23, q_104_24, q_104_26, q_104_27, q_104_28, q_104_30, q_104_31, i_104_0, p_104_0, i_104_7, p_104_7, i_104_10, p_104_10, i_104_13, p_104_13, i_104_14, p_104_14, i_104_15, p_104_15, i_104_16, p_104_16, i_104_17, p_104_17, i_104_19, p_104_19, i_104_20, p_104_20, i_104_25, p_104_25, i_104_29, p_104_29, a_2, w_2, a_81, w_81, a_89, w_89, a_91, w_91, a_93, w_93, a_94, w_94, a_95, w_95, a_105, w_105, a_106, w_106, a_107, w_107, a_108, w_108, a_109, w_109, a_110, w_110, a_111, w_111, a_112, w_112, a_113, w_113, a_114, w_114, a_115, w_115, a_116, w_116, a_117, w_117, a_118, w_118, a_119, w_119, a_120, w_120, a_121, w_121, a_122, w_122, a_123, w_123, a_124, w_124, hn, s_ent8 (o := 94) rfl (show i < 8 by omega), d94, s_amount r82 k1.2.2.2.2, am, s_ent8 (o := 93) rfl v8, c93, J0, if_neg c1', if_neg c2', ei, c3, ← e2]
  · intro kc
    have b1 := bd n (Nat.le_refl _)
    unfold BX7_costOfTour_10 CX7_costOfTour_10 cst
    simp (disch := omega) only [J_add, J_sub, J_mul, J_lt, J_le, J_eq, xbr_true, xbr_false, xbr_pos, xbr_neg, Int.toNat_natCast, all_eq, ex_eq, t_0, q_0_0, q_0_1, q_0_2, q_0_3, q_0_4, q_0_5, q_0_6, q_0_7, q_0_8, q_0_9, i_0_10, p_0_10, i_0_11, p_0_11, i_0_12, p_0_12, t_1, q_1_0, t_3, q_3_0, q_3_1, i_3_2, p_3_2, i_3_3, p_3_3, t_80, q_80_0, t_88, q_88_0, t_90, q_90_0, t_92, q_92_0, q_92_1, q_92_2, i_92_3, p_92_3, i_92_4, p_92_4, t_96, q_96_0, i_96_1, p_96_1, i_96_2, p_96_2, i_96_3, p_96_3, t_100, q_100_0, i_100_1, p_100_1, i_100_2, p_100_2, i_100_3, p_100_3, t_104, q_104_1, q_104_2, q_104_3, q_104_4, q_104_5, q_104_6, q_104_8, q_104_9, q_104_11, q_104_12, q_104_18, q_104_21, q_104_22, q_104_23, q_104_24, q_104_26, q_104_27, q_104_28, q_104_30, q_104_31, i_104_0, p_104_0, i_104_7, p_104_7, i_104_10, p_104_10, i_104_13, p_104_13, i_104_14, p_104_14, i_104_15, p_104_15, i_104_16, p_104_16, i_104_17, p_104_17, i_104_19, p_104_19, i_104_20, p_104_20, i_104_25, p_104_25, i_104_29, p_104_29, a_2, w_2, a_81, w_81, a_89, w_89, a_91, w_91, a_93, w_93, a_94, w_94, a_95, w_95, a_105, w_105, a_106, w_106, a_107, w_107, a_108, w_108, a_109, w_109, a_110, w_110, a_111, w_111, a_112, w_112, a_113, w_113, a_114, w_114, a_115, w_115, a_116, w_116, a_117, w_117, a_118, w_118, a_119, w_119, a_120, w_120, a_121, w_121, a_122, w_122, a_123, w_123, a_124, w_124, hn, J_div]
theorem m_weighed {K : Int64 → Prop} (hT : TaI n τ) (h : TrI D 120 n τ l) (hn : D 104 25 = n) (hc : ∀ s, s < 8 → 0 ≤ ch s ∧ ch s ≤ 1000000) (h93 : ∀ s, s < 8 → D 122 s = ch s) (k2 : RowM D A) (k3 : RwOk A nb) : PX11_weighed (ad z 104) (lay z g D) K = K (LJ (cwT ch A.2.2 (fun i => τ (l.getD i 0)) n).1) := by
  obtain ⟨h1, h2, h3⟩ := h
  have n5 := hT.1
  have l24 := k2.2.1
  have hon : ∀ s, s < 8 → A.2.2 s ≤ 24 := fun s hs => by
    have := on_le k3 (s := s + 1) (by omega)
    have e : sumN A.2.2 (s + 1) = sumN A.2.2 s + A.2.2 s := rfl
    omega
  have hv : ∀ i, i < n → τ (l.getD i 0) < 8 := fun i hi => hT.2.2 _ (h2 i hi)
  have bd := cwT_b (v := fun i => τ (l.getD i 0)) hc hon hv n5
  unfold PX11_weighed
  simp (disch := omega) only [J_add, J_sub, J_mul, J_lt, J_le, J_eq, xbr_true, xbr_false, xbr_pos, xbr_neg, Int.toNat_natCast, all_eq, ex_eq, t_0, q_0_0, q_0_1, q_0_2, q_0_3, q_0_4, q_0_5, q_0_6, q_0_7, q_0_8, q_0_9, i_0_10, p_0_10, i_0_11, p_0_11, i_0_12, p_0_12, t_1, q_1_0, t_3, q_3_0, q_3_1, i_3_2, p_3_2, i_3_3, p_3_3, t_80, q_80_0, t_88, q_88_0, t_90, q_90_0, t_92, q_92_0, q_92_1, q_92_2, i_92_3, p_92_3, i_92_4, p_92_4, t_96, q_96_0, i_96_1, p_96_1, i_96_2, p_96_2, i_96_3, p_96_3, t_100, q_100_0, i_100_1, p_100_1, i_100_2, p_100_2, i_100_3, p_100_3, t_104, q_104_1, q_104_2, q_104_3, q_104_4, q_104_5, q_104_6, q_104_8, q_104_9, q_104_11, q_104_12, q_104_18, q_104_21, q_104_22, q_104_23, q_104_24, q_104_26, q_104_27, q_104_28, q_104_30, q_104_31, i_104_0, p_104_0, i_104_7, p_104_7, i_104_10, p_104_10, i_104_13, p_104_13, i_104_14, p_104_14, i_104_15, p_104_15, i_104_16, p_104_16, i_104_17, p_104_17, i_104_19, p_104_19, i_104_20, p_104_20, i_104_25, p_104_25, i_104_29, p_104_29, a_2, w_2, a_81, w_81, a_89, w_89, a_91, w_91, a_93, w_93, a_94, w_94, a_95, w_95, a_105, w_105, a_106, w_106, a_107, w_107, a_108, w_108, a_109, w_109, a_110, w_110, a_111, w_111, a_112, w_112, a_113, w_113, a_114, w_114, a_115, w_115, a_116, w_116, a_117, w_117, a_118, w_118, a_119, w_119, a_120, w_120, a_121, w_121, a_122, w_122, a_123, w_123, a_124, w_124]
  refine lp_for (fun i : Nat => (LJ (cwT ch A.2.2 (fun i => τ (l.getD i 0)) i).1, J (cwT ch A.2.2 (fun i => τ (l.getD i 0)) i).2.1, J ((cwT ch A.2.2 (fun i => τ (l.getD i 0)) i).2.2 : Nat), J (i : Int))) 0 n _ (by omega) ?_ ?_
  · intro i _ hi kc
    have b1 := bd i (by omega)
    have b2 := bd (i + 1) (by omega)
    have e1 : (cwT ch A.2.2 (fun i => τ (l.getD i 0)) (i + 1)).1 = (cwT ch A.2.2 (fun i => τ (l.getD i 0)) i).1 + ch (τ (l.getD i 0)) * (cwT ch A.2.2 (fun i => τ (l.getD i 0)) (i + 1)).2.1 := rfl
    have e2 : (cwT ch A.2.2 (fun i => τ (l.getD i 0)) (i + 1)).2.1 = (cwT ch A.2.2 (fun i => τ (l.getD i 0)) i).2.1 + ((if (cwT ch A.2.2 (fun i => τ (l.getD i 0)) i).2.2 ≤ τ (l.getD i 0) then (τ (l.getD i 0) : Int) - (cwT ch A.2.2 (fun i => τ (l.getD i 0)) i).2.2 else ((cwT ch A.2.2 (fun i => τ (l.getD i 0)) i).2.2 : Int) - τ (l.getD i 0)) + (if 1 < A.2.2 (τ (l.getD i 0)) then (A.2.2 (τ (l.getD i 0)) : Int) else 1)) := rfl
    have e3 : (cwT ch A.2.2 (fun i => τ (l.getD i 0)) (i + 1)).2.2 = τ (l.getD i 0) := rfl
    have v8 := hv i hi
    have d94 := h3 i hi
    rw [e3, e1]
    generalize (cwT ch A.2.2 (fun i => τ (l.getD i 0)) (i + 1)).2.1 = st' at *
    generalize (cwT ch A.2.2 (fun i => τ (l.getD i 0)) (i + 1)).1 = su' at *
    generalize (cwT ch A.2.2 (fun i => τ (l.getD i 0)) i).1 = su at *
    generalize (cwT ch A.2.2 (fun i => τ (l.getD i 0)) i).2.1 = st at *
    generalize (cwT ch A.2.2 (fun i => τ (l.getD i 0)) i).2.2 = at0 at *
    generalize τ (l.getD i 0) = s at *
    have am := k2.2.2.2 s v8
    have cb := hc s v8
    have on1 := hon s v8
    have c93 := h93 s v8
    have ei : (i : Int) + 1 = ((i + 1 : Nat) : Int) := by omega
    unfold BX11_weighed_10 CX11_weighed_10 JX11_weighed_49 JX11_weighed_70
    by_cases c1 : at0 ≤ s
    · by_cases c4 : at0 = s
      · by_cases c2 : 1 < A.2.2 s
        · rw [if_pos c1, if_pos c2] at e2
          have e2' : st' = st + ((at0 : Int) - (s : Int) + (A.2.2 s : Int)) := by omega
          simp (disch := omega) only [J_add, J_sub, J_mul, J_lt, J_le, J_eq, xbr_true, xbr_false, xbr_pos, xbr_neg, Int.toNat_natCast, all_eq, ex_eq, t_0, q_0_0, q_0_1, q_0_2, q_0_3, q_0_4, q_0_5, q_0_6, q_0_7, q_0_8, q_0_9, i_0_10, p_0_10, i_0_11, p_0_11, i_0_12, p_0_12, t_1, q_1_0, t_3, q_3_0, q_3_1, i_3_2, p_3_2, i_3_3, p_3_3, t_80, q_80_0, t_88, q_88_0, t_90, q_90_0, t_92, q_92_0, q_92_1, q_92_2, i_92_3, p_92_3, i_92_4, p_92_4, t_96, q_96_0, i_96_1, p_96_1, i_96_2, p_96_2, i_96_3, p_96_3, t_100, q_100_0, i_100_1, p_100_1, i_100_2, p_100_2, i_100_3, p_100_3, t_104, q_104_1, q_104_2, q_104_3, q_104_4, q_104_5, q_104_6, q_104_8, q_104_9, q_104_11, q_104_12, q_104_18, q_104_21, q_104_22, q_104_23, q_104_24, q_104_26, q_104_27, q_104_28, q_104_30, q_104_31, i_104_0, p_104_0, i_104_7, p_104_7, i_104_10, p_104_10, i_104_13, p_104_13, i_104_14, p_104_14, i_104_15, p_104_15, i_104_16, p_104_16, i_104_17, p_104_17, i_104_19, p_104_19, i_104_20, p_104_20, i_104_25, p_104_25, i_104_29, p_104_29, a_2, w_2, a_81, w_81, a_89, w_89, a_91, w_91, a_93, w_93, a_94, w_94, a_95, w_95, a_105, w_105, a_106, w_106, a_107, w_107, a_108, w_108, a_109, w_109, a_110, w_110, a_111, w_111, a_112, w_112, a_113, w_113, a_114, w_114, a_115, w_115, a_116, w_116, a_117, w_117, a_118, w_118, a_119, w_119, a_120, w_120, a_121, w_121, a_122, w_122, a_123, w_123, a_124, w_124, hn, d94, am, c93, J_long, LJ_mul, LJ_add, ei, ← e2']
        · rw [if_pos c1, if_neg c2] at e2
          have e2' : st' = st + ((at0 : Int) - (s : Int) + 1) := by omega
          by_cases c5 : A.2.2 s = 0
          · simp (disch := omega) only [J_add, J_sub, J_mul, J_lt, J_le, J_eq, xbr_true, xbr_false, xbr_pos, xbr_neg, Int.toNat_natCast, all_eq, ex_eq, t_0, q_0_0, q_0_1, q_0_2, q_0_3, q_0_4, q_0_5, q_0_6, q_0_7, q_0_8, q_0_9, i_0_10, p_0_10, i_0_11, p_0_11, i_0_12, p_0_12, t_1, q_1_0, t_3, q_3_0, q_3_1, i_3_2, p_3_2, i_3_3, p_3_3, t_80, q_80_0, t_88, q_88_0, t_90, q_90_0, t_92, q_92_0, q_92_1, q_92_2, i_92_3, p_92_3, i_92_4, p_92_4, t_96, q_96_0, i_96_1, p_96_1, i_96_2, p_96_2, i_96_3, p_96_3, t_100, q_100_0, i_100_1, p_100_1, i_100_2, p_100_2, i_100_3, p_100_3, t_104, q_104_1, q_104_2, q_104_3, q_104_4, q_104_5, q_104_6, q_104_8, q_104_9, q_104_11, q_104_12, q_104_18, q_104_21, q_104_22, q_104_23, q_104_24, q_104_26, q_104_27, q_104_28, q_104_30, q_104_31, i_104_0, p_104_0, i_104_7, p_104_7, i_104_10, p_104_10, i_104_13, p_104_13, i_104_14, p_104_14, i_104_15, p_104_15, i_104_16, p_104_16, i_104_17, p_104_17, i_104_19, p_104_19, i_104_20, p_104_20, i_104_25, p_104_25, i_104_29, p_104_29, a_2, w_2, a_81, w_81, a_89, w_89, a_91, w_91, a_93, w_93, a_94, w_94, a_95, w_95, a_105, w_105, a_106, w_106, a_107, w_107, a_108, w_108, a_109, w_109, a_110, w_110, a_111, w_111, a_112, w_112, a_113, w_113, a_114, w_114, a_115, w_115, a_116, w_116, a_117, w_117, a_118, w_118, a_119, w_119, a_120, w_120, a_121, w_121, a_122, w_122, a_123, w_123, a_124, w_124, hn, d94, am, c93, J_long, LJ_mul, LJ_add, ei, ← e2']
          · have e2'' : st' = st + ((at0 : Int) - (s : Int) + (A.2.2 s : Int)) := by omega
            simp (disch := omega) only [J_add, J_sub, J_mul, J_lt, J_le, J_eq, xbr_true, xbr_false, xbr_pos, xbr_neg, Int.toNat_natCast, all_eq, ex_eq, t_0, q_0_0, q_0_1, q_0_2, q_0_3, q_0_4, q_0_5, q_0_6, q_0_7, q_0_8, q_0_9, i_0_10, p_0_10, i_0_11, p_0_11, i_0_12, p_0_12, t_1, q_1_0, t_3, q_3_0, q_3_1, i_3_2, p_3_2, i_3_3, p_3_3, t_80, q_80_0, t_88, q_88_0, t_90, q_90_0, t_92, q_92_0, q_92_1, q_92_2, i_92_3, p_92_3, i_92_4, p_92_4, t_96, q_96_0, i_96_1, p_96_1, i_96_2, p_96_2, i_96_3, p_96_3, t_100, q_100_0, i_100_1, p_100_1, i_100_2, p_100_2, i_100_3, p_100_3, t_104, q_104_1, q_104_2, q_104_3, q_104_4, q_104_5, q_104_6, q_104_8, q_104_9, q_104_11, q_104_12, q_104_18, q_104_21, q_104_22, q_104_23, q_104_24, q_104_26, q_104_27, q_104_28, q_104_30, q_104_31, i_104_0, p_104_0, i_104_7, p_104_7, i_104_10, p_104_10, i_104_13, p_104_13, i_104_14, p_104_14, i_104_15, p_104_15, i_104_16, p_104_16, i_104_17, p_104_17, i_104_19, p_104_19, i_104_20, p_104_20, i_104_25, p_104_25, i_104_29, p_104_29, a_2, w_2, a_81, w_81, a_89, w_89, a_91, w_91, a_93, w_93, a_94, w_94, a_95, w_95, a_105, w_105, a_106, w_106, a_107, w_107, a_108, w_108, a_109, w_109, a_110, w_110, a_111, w_111, a_112, w_112, a_113, w_113, a_114, w_114, a_115, w_115, a_116, w_116, a_117, w_117, a_118, w_118, a_119, w_119, a_120, w_120, a_121, w_121, a_122, w_122, a_123, w_123, a_124, w_124, hn, d94, am, c93, J_long, LJ_mul, LJ_add, ei, ← e2'']
      · by_cases c2 : 1 < A.2.2 s
        · rw [if_pos c1, if_pos c2] at e2
          simp (disch := omega) only [J_add, J_sub, J_mul, J_lt, J_le, J_eq, xbr_true, xbr_false, xbr_pos, xbr_neg, Int.toNat_natCast, all_eq, ex_eq, t_0, q_0_0, q_0_1, q_0_2, q_0_3, q_0_4, q_0_5, q_0_6, q_0_7, q_0_8, q_0_9, i_0_10, p_0_10, i_0_11, p_0_11, i_0_12, p_0_12, t_1, q_1_0, t_3, q_3_0, q_3_1, i_3_2, p_3_2, i_3_3, p_3_3, t_80, q_80_0, t_88, q_88_0, t_90, q_90_0, t_92, q_92_0, q_92_1, q_92_2, i_92_3, p_92_3, i_92_4, p_92_4, t_96, q_96_0, i_96_1, p_96_1, i_96_2, p_96_2, i_96_3, p_96_3, t_100, q_100_0, i_100_1, p_100_1, i_100_2, p_100_2, i_100_3, p_100_3, t_104, q_104_1, q_104_2, q_104_3, q_104_4, q_104_5, q_104_6, q_104_8, q_104_9, q_104_11, q_104_12, q_104_18, q_104_21, q_104_22, q_104_23, q_104_24, q_104_26, q_104_27, q_104_28, q_104_30, q_104_31, i_104_0, p_104_0, i_104_7, p_104_7, i_104_10, p_104_10, i_104_13, p_104_13, i_104_14, p_104_14, i_104_15, p_104_15, i_104_16, p_104_16, i_104_17, p_104_17, i_104_19, p_104_19, i_104_20, p_104_20, i_104_25, p_104_25, i_104_29, p_104_29, a_2, w_2, a_81, w_81, a_89, w_89, a_91, w_91, a_93, w_93, a_94, w_94, a_95, w_95, a_105, w_105, a_106, w_106, a_107, w_107, a_108, w_108, a_109, w_109, a_110, w_110, a_111, w_111, a_112, w_112, a_113, w_113, a_114, w_114, a_115, w_115, a_116, w_116, a_117, w_117, a_118, w_118, a_119, w_119, a_120, w_120, a_121, w_121, a_122, w_122, a_123, w_123, a_124, w_124, hn, d94, am, c93, J_long, LJ_mul, LJ_add, ei, ← e2]
        · rw [if_pos c1, if_neg c2] at e2
          by_cases c5 : A.2.2 s = 0
          · simp (disch := omega) only [J_add, J_sub, J_mul, J_lt, J_le, J_eq, xbr_true, xbr_false, xbr_pos, xbr_neg, Int.toNat_natCast, all_eq, ex_eq, t_0, q_0_0, q_0_1, q_0_2, q_0_3, q_0_4, q_0_5, q_0_6, q_0_7, q_0_8, q_0_9, i_0_10, p_0_10, i_0_11, p_0_11, i_0_12, p_0_12, t_1, q_1_0, t_3, q_3_0, q_3_1, i_3_2, p_3_2, i_3_3, p_3_3, t_80, q_80_0, t_88, q_88_0, t_90, q_90_0, t_92, q_92_0, q_92_1, q_92_2, i_92_3, p_92_3, i_92_4, p_92_4, t_96, q_96_0, i_96_1, p_96_1, i_96_2, p_96_2, i_96_3, p_96_3, t_100, q_100_0, i_100_1, p_100_1, i_100_2, p_100_2, i_100_3, p_100_3, t_104, q_104_1, q_104_2, q_104_3, q_104_4, q_104_5, q_104_6, q_104_8, q_104_9, q_104_11, q_104_12, q_104_18, q_104_21, q_104_22, q_104_23, q_104_24, q_104_26, q_104_27, q_104_28, q_104_30, q_104_31, i_104_0, p_104_0, i_104_7, p_104_7, i_104_10, p_104_10, i_104_13, p_104_13, i_104_14, p_104_14, i_104_15, p_104_15, i_104_16, p_104_16, i_104_17, p_104_17, i_104_19, p_104_19, i_104_20, p_104_20, i_104_25, p_104_25, i_104_29, p_104_29, a_2, w_2, a_81, w_81, a_89, w_89, a_91, w_91, a_93, w_93, a_94, w_94, a_95, w_95, a_105, w_105, a_106, w_106, a_107, w_107, a_108, w_108, a_109, w_109, a_110, w_110, a_111, w_111, a_112, w_112, a_113, w_113, a_114, w_114, a_115, w_115, a_116, w_116, a_117, w_117, a_118, w_118, a_119, w_119, a_120, w_120, a_121, w_121, a_122, w_122, a_123, w_123, a_124, w_124, hn, d94, am, c93, J_long, LJ_mul, LJ_add, ei, ← e2]
          · have e2'' : st' = st + ((s : Int) - (at0 : Int) + (A.2.2 s : Int)) := by omega
            simp (disch := omega) only [J_add, J_sub, J_mul, J_lt, J_le, J_eq, xbr_true, xbr_false, xbr_pos, xbr_neg, Int.toNat_natCast, all_eq, ex_eq, t_0, q_0_0, q_0_1, q_0_2, q_0_3, q_0_4, q_0_5, q_0_6, q_0_7, q_0_8, q_0_9, i_0_10, p_0_10, i_0_11, p_0_11, i_0_12, p_0_12, t_1, q_1_0, t_3, q_3_0, q_3_1, i_3_2, p_3_2, i_3_3, p_3_3, t_80, q_80_0, t_88, q_88_0, t_90, q_90_0, t_92, q_92_0, q_92_1, q_92_2, i_92_3, p_92_3, i_92_4, p_92_4, t_96, q_96_0, i_96_1, p_96_1, i_96_2, p_96_2, i_96_3, p_96_3, t_100, q_100_0, i_100_1, p_100_1, i_100_2, p_100_2, i_100_3, p_100_3, t_104, q_104_1, q_104_2, q_104_3, q_104_4, q_104_5, q_104_6, q_104_8, q_104_9, q_104_11, q_104_12, q_104_18, q_104_21, q_104_22, q_104_23, q_104_24, q_104_26, q_104_27, q_104_28, q_104_30, q_104_31, i_104_0, p_104_0, i_104_7, p_104_7, i_104_10, p_104_10, i_104_13, p_104_13, i_104_14, p_104_14, i_104_15, p_104_15, i_104_16, p_104_16, i_104_17, p_104_17, i_104_19, p_104_19, i_104_20, p_104_20, i_104_25, p_104_25, i_104_29, p_104_29, a_2, w_2, a_81, w_81, a_89, w_89, a_91, w_91, a_93, w_93, a_94, w_94, a_95, w_95, a_105, w_105, a_106, w_106, a_107, w_107, a_108, w_108, a_109, w_109, a_110, w_110, a_111, w_111, a_112, w_112, a_113, w_113, a_114, w_114, a_115, w_115, a_116, w_116, a_117, w_117, a_118, w_118, a_119, w_119, a_120, w_120, a_121, w_121, a_122, w_122, a_123, w_123, a_124, w_124, hn, d94, am, c93, J_long, LJ_mul, LJ_add, ei, ← e2'']
    · by_cases c2 : 1 < A.2.2 s
      · rw [if_neg c1, if_pos c2] at e2
        simp (disch := omega) only [J_add, J_sub, J_mul, J_lt, J_le, J_eq, xbr_true, xbr_false, xbr_pos, xbr_neg, Int.toNat_natCast, all_eq, ex_eq, t_0, q_0_0, q_0_1, q_0_2, q_0_3, q_0_4, q_0_5, q_0_6, q_0_7, q_0_8, q_0_9, i_0_10, p_0_10, i_0_11, p_0_11, i_0_12, p_0_12, t_1, q_1_0, t_3, q_3_0, q_3_1, i_3_2, p_3_2, i_3_3, p_3_3, t_80, q_80_0, t_88, q_88_0, t_90, q_90_0, t_92, q_92_0, q_92_1, q_92_2, i_92_3, p_92_3, i_92_4, p_92_4, t_96, q_96_0, i_96_1, p_96_1, i_96_2, p_96_2, i_96_3, p_96_3, t_100, q_100_0, i_100_1, p_100_1, i_100_2, p_100_2, i_100_3, p_100_3, t_104, q_104_1, q_104_2, q_104_3, q_104_4, q_104_5, q_104_6, q_104_8, q_104_9, q_104_11, q_104_12, q_104_18, q_104_21, q_104_22, q_104_23, q_104_24, q_104_26, q_104_27, q_104_28, q_104_30, q_104_31, i_104_0, p_104_0, i_104_7, p_104_7, i_104_10, p_104_10, i_104_13, p_104_13, i_104_14, p_104_14, i_104_15, p_104_15, i_104_16, p_104_16, i_104_17, p_104_17, i_104_19, p_104_19, i_104_20, p_104_20, i_104_25, p_104_25, i_104_29, p_104_29, a_2, w_2, a_81, w_81, a_89, w_89, a_91, w_91, a_93, w_93, a_94, w_94, a_95, w_95, a_105, w_105, a_106, w_106, a_107, w_107, a_108, w_108, a_109, w_109, a_110, w_110, a_111, w_111, a_112, w_112, a_113, w_113, a_114, w_114, a_115, w_115, a_116, w_116, a_117, w_117, a_118, w_118, a_119, w_119, a_120, w_120, a_121, w_121, a_122, w_122, a_123, w_123, a_124, w_124, hn, d94, am, c93, J_long, LJ_mul, LJ_add, ei, ← e2]
      · rw [if_neg c1, if_neg c2] at e2
        by_cases c5 : A.2.2 s = 0
        · simp (disch := omega) only [J_add, J_sub, J_mul, J_lt, J_le, J_eq, xbr_true, xbr_false, xbr_pos, xbr_neg, Int.toNat_natCast, all_eq, ex_eq, t_0, q_0_0, q_0_1, q_0_2, q_0_3, q_0_4, q_0_5, q_0_6, q_0_7, q_0_8, q_0_9, i_0_10, p_0_10, i_0_11, p_0_11, i_0_12, p_0_12, t_1, q_1_0, t_3, q_3_0, q_3_1, i_3_2, p_3_2, i_3_3, p_3_3, t_80, q_80_0, t_88, q_88_0, t_90, q_90_0, t_92, q_92_0, q_92_1, q_92_2, i_92_3, p_92_3, i_92_4, p_92_4, t_96, q_96_0, i_96_1, p_96_1, i_96_2, p_96_2, i_96_3, p_96_3, t_100, q_100_0, i_100_1, p_100_1, i_100_2, p_100_2, i_100_3, p_100_3, t_104, q_104_1, q_104_2, q_104_3, q_104_4, q_104_5, q_104_6, q_104_8, q_104_9, q_104_11, q_104_12, q_104_18, q_104_21, q_104_22, q_104_23, q_104_24, q_104_26, q_104_27, q_104_28, q_104_30, q_104_31, i_104_0, p_104_0, i_104_7, p_104_7, i_104_10, p_104_10, i_104_13, p_104_13, i_104_14, p_104_14, i_104_15, p_104_15, i_104_16, p_104_16, i_104_17, p_104_17, i_104_19, p_104_19, i_104_20, p_104_20, i_104_25, p_104_25, i_104_29, p_104_29, a_2, w_2, a_81, w_81, a_89, w_89, a_91, w_91, a_93, w_93, a_94, w_94, a_95, w_95, a_105, w_105, a_106, w_106, a_107, w_107, a_108, w_108, a_109, w_109, a_110, w_110, a_111, w_111, a_112, w_112, a_113, w_113, a_114, w_114, a_115, w_115, a_116, w_116, a_117, w_117, a_118, w_118, a_119, w_119, a_120, w_120, a_121, w_121, a_122, w_122, a_123, w_123, a_124, w_124, hn, d94, am, c93, J_long, LJ_mul, LJ_add, ei, ← e2]
        · have e2'' : st' = st + ((at0 : Int) - (s : Int) + (A.2.2 s : Int)) := by omega
          simp (disch := omega) only [J_add, J_sub, J_mul, J_lt, J_le, J_eq, xbr_true, xbr_false, xbr_pos, xbr_neg, Int.toNat_natCast, all_eq, ex_eq, t_0, q_0_0, q_0_1, q_0_2, q_0_3, q_0_4, q_0_5, q_0_6, q_0_7, q_0_8, q_0_9, i_0_10, p_0_10, i_0_11, p_0_11, i_0_12, p_0_12, t_1, q_1_0, t_3, q_3_0, q_3_1, i_3_2, p_3_2, i_3_3, p_3_3, t_80, q_80_0, t_88, q_88_0, t_90, q_90_0, t_92, q_92_0, q_92_1, q_92_2, i_92_3, p_92_3, i_92_4, p_92_4, t_96, q_96_0, i_96_1, p_96_1, i_96_2, p_96_2, i_96_3, p_96_3, t_100, q_100_0, i_100_1, p_100_1, i_100_2, p_100_2, i_100_3, p_100_3, t_104, q_104_1, q_104_2, q_104_3, q_104_4, q_104_5, q_104_6, q_104_8, q_104_9, q_104_11, q_104_12, q_104_18, q_104_21, q_104_22, q_104_23, q_104_24, q_104_26, q_104_27, q_104_28, q_104_30, q_104_31, i_104_0, p_104_0, i_104_7, p_104_7, i_104_10, p_104_10, i_104_13, p_104_13, i_104_14, p_104_14, i_104_15, p_104_15, i_104_16, p_104_16, i_104_17, p_104_17, i_104_19, p_104_19, i_104_20, p_104_20, i_104_25, p_104_25, i_104_29, p_104_29, a_2, w_2, a_81, w_81, a_89, w_89, a_91, w_91, a_93, w_93, a_94, w_94, a_95, w_95, a_105, w_105, a_106, w_106, a_107, w_107, a_108, w_108, a_109, w_109, a_110, w_110, a_111, w_111, a_112, w_112, a_113, w_113, a_114, w_114, a_115, w_115, a_116, w_116, a_117, w_117, a_118, w_118, a_119, w_119, a_120, w_120, a_121, w_121, a_122, w_122, a_123, w_123, a_124, w_124, hn, d94, am, c93, J_long, LJ_mul, LJ_add, ei, ← e2'']
  · intro kc
    unfold BX11_weighed_10 CX11_weighed_10
    simp (disch := omega) only [J_add, J_sub, J_mul, J_lt, J_le, J_eq, xbr_true, xbr_false, xbr_pos, xbr_neg, Int.toNat_natCast, all_eq, ex_eq, t_0, q_0_0, q_0_1, q_0_2, q_0_3, q_0_4, q_0_5, q_0_6, q_0_7, q_0_8, q_0_9, i_0_10, p_0_10, i_0_11, p_0_11, i_0_12, p_0_12, t_1, q_1_0, t_3, q_3_0, q_3_1, i_3_2, p_3_2, i_3_3, p_3_3, t_80, q_80_0, t_88, q_88_0, t_90, q_90_0, t_92, q_92_0, q_92_1, q_92_2, i_92_3, p_92_3, i_92_4, p_92_4, t_96, q_96_0, i_96_1, p_96_1, i_96_2, p_96_2, i_96_3, p_96_3, t_100, q_100_0, i_100_1, p_100_1, i_100_2, p_100_2, i_100_3, p_100_3, t_104, q_104_1, q_104_2, q_104_3, q_104_4, q_104_5, q_104_6, q_104_8, q_104_9, q_104_11, q_104_12, q_104_18, q_104_21, q_104_22, q_104_23, q_104_24, q_104_26, q_104_27, q_104_28, q_104_30, q_104_31, i_104_0, p_104_0, i_104_7, p_104_7, i_104_10, p_104_10, i_104_13, p_104_13, i_104_14, p_104_14, i_104_15, p_104_15, i_104_16, p_104_16, i_104_17, p_104_17, i_104_19, p_104_19, i_104_20, p_104_20, i_104_25, p_104_25, i_104_29, p_104_29, a_2, w_2, a_81, w_81, a_89, w_89, a_91, w_91, a_93, w_93, a_94, w_94, a_95, w_95, a_105, w_105, a_106, w_106, a_107, w_107, a_108, w_108, a_109, w_109, a_110, w_110, a_111, w_111, a_112, w_112, a_113, w_113, a_114, w_114, a_115, w_115, a_116, w_116, a_117, w_117, a_118, w_118, a_119, w_119, a_120, w_120, a_121, w_121, a_122, w_122, a_123, w_123, a_124, w_124, hn]
end SRC
