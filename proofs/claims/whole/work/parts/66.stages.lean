/-! READING A TEXT: the class, part by part (2) -/
section STGD
variable (tx : Nat → Int) (n : Nat)
def vA (p : Nat) : Nat → Int := if isLt (tx (p + 1)) then vup (vup vz 1 (tx p - 96)) 2 (tx (p + 1) - 96) else vup vz 1 (tx p - 96)
def sA (p : Nat) : List Int := if isLt (tx (p + 1)) then [tx p, tx (p + 1)] else [tx p]
def vB (p : Nat) (v : Nat → Int) : Nat → Int := vup (vup v 3 (wholeD (dgs tx p) (fgN tx p))) 4 (filD (dgs tx p) (fgN tx p))
def sB (p : Nat) (sg : List Int) : List Int := sg ++ fgL tx p (fgN tx p)
def vD (p : Nat) (v : Nat → Int) : Nat → Int := if hasD tx p then vup (vup v 5 (wholeD (dgs tx (p + 1)) (fgN tx (p + 1)))) 6 (filD (dgs tx (p + 1)) (fgN tx (p + 1))) else v
def sD (p : Nat) (sg : List Int) : List Int := if hasD tx p then (sg ++ [tx p]) ++ fgL tx (p + 1) (fgN tx (p + 1)) else sg
def vC (p : Nat) (v : Nat → Int) : Nat → Int := if tx p = 46 then vup (vup (vup v 7 (tx (p + 1) - 96)) 8 (wholeD (dgs tx (p + 2)) (fgN tx (p + 2)))) 9 (filD (dgs tx (p + 2)) (fgN tx (p + 2))) else v
def sC (p : Nat) (sg : List Int) : List Int := if tx p = 46 then ((sg ++ [tx p]) ++ [tx (p + 1)]) ++ fgL tx (p + 2) (fgN tx (p + 2)) else sg
def vY (p : Nat) (v : Nat → Int) : Nat → Int := if hasY tx n p then vup v 10 (yrT tx n p) else v
def sY (p : Nat) (sg : List Int) : List Int := if hasY tx n p then ((sg ++ [32]) ++ [tx (skp tx n p)]) ++ fgL tx (skp tx n p + 1) 4 else sg
def vW (p : Nat) (v : Nat → Int) : Nat → Int := if hasW tx n p then vup v 11 (tx (q5 tx n p + 1) - 48) else v
end STGD
section STG2
variable {z q n m p : Nat} {g : Mem} {C : Nat → Nat → Int} {v : Nat → Int} {sg : List Int} {tx : Nat → Int} {kd0 pl vl bf : Int}
theorem VOk.vz0 : VOk vz := by unfold VOk vz; simp
theorem s_ptx {K : Int32 → Prop} (h : TxC C n tx) {p : Nat} (hp : p ≤ 10000) : PX1_get (ad z 1) (J (p : Nat)) (lay z g C) K = K (J (tx p)) := by
  have e1 := h.1
  have hn := h.2.1
  simp (disch := omega) only [J_add, J_sub, J_mul, J_lt, J_le, J_eq, xbr_true, xbr_false, xbr_pos, xbr_neg, Int.toNat_natCast, all_eq, ex_eq, s_bget text_B, h.1]
  rcases Nat.lt_or_ge p n with c | c
  · rw [if_pos (by omega), (h.2.2.1 p c).1]
  · rw [if_neg (by omega), h.2.2.2 p c]
theorem s_takeLetter {K : Int32 → Mem → Prop} (hq : z + 125 ≤ q) (h : TxC C n tx) (hm : m < 24) (hl : sg.length < 23) {p : Nat} (hp : p < n) : PX5_takeLetter q (lay z (prM g z q (8 + 3 * m) (p : Nat) kd0 pl vl bf) (dC C m v sg)) K = K (J (tx p - 96)) (lay z (prM g z q (8 + 3 * m) (p + 1 : Nat) kd0 pl vl bf) (dC C m v (sg ++ [tx p]))) := by
  have e : tx p - 97 + 1 = tx p - 96 := by omega
  unfold PX5_takeLetter
  simp (disch := omega) only [J_add, J_sub, J_mul, J_lt, J_le, J_eq, xbr_true, xbr_false, xbr_pos, xbr_neg, Int.toNat_natCast, all_eq, ex_eq, p_T hq, s_takeSign hq h hm hl hp, e]
theorem s_hasSpace {K : Int32 → Prop} (hm : C 3 3 = m) (h24 : m ≤ 24) : PX2_hasSpace (ad z 3) (lay z g C) K = K (J (if m < 24 then 1 else 0)) := by
  unfold PX2_hasSpace
  by_cases c : m < 24
  · rw [if_pos c]
    simp (disch := omega) only [J_add, J_sub, J_mul, J_lt, J_le, J_eq, xbr_true, xbr_false, xbr_pos, xbr_neg, Int.toNat_natCast, all_eq, ex_eq, t_0, q_0_0, q_0_1, q_0_2, q_0_3, q_0_4, q_0_5, q_0_6, q_0_7, q_0_8, q_0_9, i_0_10, p_0_10, i_0_11, p_0_11, i_0_12, p_0_12, t_1, q_1_0, t_3, q_3_0, q_3_1, i_3_2, p_3_2, i_3_3, p_3_3, t_80, q_80_0, t_88, q_88_0, t_90, q_90_0, t_92, q_92_0, q_92_1, q_92_2, i_92_3, p_92_3, i_92_4, p_92_4, t_96, q_96_0, i_96_1, p_96_1, i_96_2, p_96_2, i_96_3, p_96_3, t_100, q_100_0, i_100_1, p_100_1, i_100_2, p_100_2, i_100_3, p_100_3, t_104, q_104_1, q_104_2, q_104_3, q_104_4, q_104_5, q_104_6, q_104_8, q_104_9, q_104_11, q_104_12, q_104_18, q_104_21, q_104_22, q_104_23, q_104_24, q_104_26, q_104_27, q_104_28, q_104_30, q_104_31, i_104_0, p_104_0, i_104_7, p_104_7, i_104_10, p_104_10, i_104_13, p_104_13, i_104_14, p_104_14, i_104_15, p_104_15, i_104_16, p_104_16, i_104_17, p_104_17, i_104_19, p_104_19, i_104_20, p_104_20, i_104_25, p_104_25, i_104_29, p_104_29, a_2, w_2, a_81, w_81, a_89, w_89, a_91, w_91, a_93, w_93, a_94, w_94, a_95, w_95, a_105, w_105, a_106, w_106, a_107, w_107, a_108, w_108, a_109, w_109, a_110, w_110, a_111, w_111, a_112, w_112, a_113, w_113, a_114, w_114, a_115, w_115, a_116, w_116, a_117, w_117, a_118, w_118, a_119, w_119, a_120, w_120, a_121, w_121, a_122, w_122, a_123, w_123, a_124, w_124, gI_lay (t := 3) (o := 3) (k := 3) rfl, hm, isB1, true_and]
  · rw [if_neg c]
    simp (disch := omega) only [J_add, J_sub, J_mul, J_lt, J_le, J_eq, xbr_true, xbr_false, xbr_pos, xbr_neg, Int.toNat_natCast, all_eq, ex_eq, t_0, q_0_0, q_0_1, q_0_2, q_0_3, q_0_4, q_0_5, q_0_6, q_0_7, q_0_8, q_0_9, i_0_10, p_0_10, i_0_11, p_0_11, i_0_12, p_0_12, t_1, q_1_0, t_3, q_3_0, q_3_1, i_3_2, p_3_2, i_3_3, p_3_3, t_80, q_80_0, t_88, q_88_0, t_90, q_90_0, t_92, q_92_0, q_92_1, q_92_2, i_92_3, p_92_3, i_92_4, p_92_4, t_96, q_96_0, i_96_1, p_96_1, i_96_2, p_96_2, i_96_3, p_96_3, t_100, q_100_0, i_100_1, p_100_1, i_100_2, p_100_2, i_100_3, p_100_3, t_104, q_104_1, q_104_2, q_104_3, q_104_4, q_104_5, q_104_6, q_104_8, q_104_9, q_104_11, q_104_12, q_104_18, q_104_21, q_104_22, q_104_23, q_104_24, q_104_26, q_104_27, q_104_28, q_104_30, q_104_31, i_104_0, p_104_0, i_104_7, p_104_7, i_104_10, p_104_10, i_104_13, p_104_13, i_104_14, p_104_14, i_104_15, p_104_15, i_104_16, p_104_16, i_104_17, p_104_17, i_104_19, p_104_19, i_104_20, p_104_20, i_104_25, p_104_25, i_104_29, p_104_29, a_2, w_2, a_81, w_81, a_89, w_89, a_91, w_91, a_93, w_93, a_94, w_94, a_95, w_95, a_105, w_105, a_106, w_106, a_107, w_107, a_108, w_108, a_109, w_109, a_110, w_110, a_111, w_111, a_112, w_112, a_113, w_113, a_114, w_114, a_115, w_115, a_116, w_116, a_117, w_117, a_118, w_118, a_119, w_119, a_120, w_120, a_121, w_121, a_122, w_122, a_123, w_123, a_124, w_124, gI_lay (t := 3) (o := 3) (k := 3) rfl, hm, isB0, true_and]
theorem s_readClass {d : Nat} (hq : z + 125 ≤ q) (h : TxC C n tx) (hm3 : C 3 3 = m) (h24 : m ≤ 24) (hp : p ≤ n) :
    ((clA tx (decide (m = 24)) p).1 ≠ 0 → FlC z q g C m (clA tx (decide (m = 24)) p).1 (clA tx (decide (m = 24)) p).2 (fun K => PX5_readClass q (lay z (prM g z q d (p : Nat) kd0 pl vl bf) C) K)) ∧
    ((clA tx (decide (m = 24)) p).1 = 0 → (m < 24 ∧ isLt (tx p) = true) ∧ ∀ K, PX5_readClass q (lay z (prM g z q d (p : Nat) kd0 pl vl bf) C) K = K (J 1) (lay z (prM g z q (8 + 3 * m) (q1 tx p : Nat) kd0 pl vl bf) (dC C m (vA tx p) (sA tx p)))) := by
  have hn := h.2.1
  have b0 := h.b p
  have b1 := h.b (p + 1)
  have b2 := h.b (p + 2)
  have ef : ∀ (x : Nat) (D : Nat → Nat → Int) (d : Nat) (a : Int) K, PX5_fail q (J (x : Nat)) (J a) (lay z (prM g z q d a kd0 pl vl bf) D) K = K (J 0) (lay z (prM g z q d a (x : Nat) a vl bf) D) := fun x D d a K => s_fail hq
  by_cases c0 : isLt (tx p) = true
  · by_cases c1 : m = 24
    · have e : clA tx (decide (m = 24)) p = (4, p) := by unfold clA; rw [if_neg (by simp [c0]), if_pos (by simpa using c1)]
      rw [e]
      refine ⟨fun _ => ⟨C, d, (p : Nat), vl, bf, fun _ _ => rfl, id, fun K => ?_⟩, fun q => by simp at q⟩
      have f4 := ef 4 C d (p : Nat)
      unfold PX5_readClass
      simp (disch := omega) only [J_add, J_sub, J_mul, J_lt, J_le, J_eq, xbr_true, xbr_false, xbr_pos, xbr_neg, Int.toNat_natCast, all_eq, ex_eq, p_T hq, s_pnext hq h (show p ≤ 10000 by omega), s_lt, if_pos c0, p_r1 hq, s_hasSpace hm3 h24, if_neg (show ¬ m < 24 by omega), p_i3 hq]
      show PX5_fail q (J ((4 : Nat) : Int)) _ _ _ = _
      rw [f4, isB0, true_and]
    · have hm : m < 24 := by omega
      have lp : p < n := b0.2.2 (by have := isLt_t c0; omega)
      have eb : bkO (m : Nat) = 8 + 3 * m := bkO_nat hm
      have hm3' : ∀ w s, dC C m w s 3 3 = m := fun w s => by rw [dC_ne (by omega)]; exact hm3
      have sp : p + 1 + 1 = p + 2 := rfl
      by_cases c2 : isLt (tx (p + 1)) = true
      · have lp1 : p + 1 < n := b1.2.2 (by have := isLt_t c2; omega)
        have eq1 : q1 tx p = p + 2 := by unfold q1; rw [if_pos c2]
        have evA : vA tx p = vup (vup vz 1 (tx p - 96)) 2 (tx (p + 1) - 96) := by unfold vA; rw [if_pos c2]
        have esA : sA tx p = [tx p, tx (p + 1)] := by unfold sA; rw [if_pos c2]
        have main : ∀ K, PX5_readClass q (lay z (prM g z q d (p : Nat) kd0 pl vl bf) C) K = xbr (J (if isLt (tx (p + 2)) then 1 else 0) = J 0) (isB (J 1) ∧ K (J 1) (lay z (prM g z q (8 + 3 * m) ((p + 2 : Nat) : Int) kd0 pl vl bf) (dC C m (vA tx p) (sA tx p)))) (PX5_fail q (J 2) (J ((p + 2 : Nat) : Int)) (lay z (prM g z q (8 + 3 * m) ((p + 2 : Nat) : Int) kd0 pl vl bf) (dC C m (vA tx p) (sA tx p))) fun r36 M37 => xbr (r36 = J 0) (isB (J 0) ∧ K (J 0) M37) (isB (J 1) ∧ K (J 1) M37)) := by
          intro K
          rw [evA, esA]
          unfold PX5_readClass
          simp (disch := omega) only [J_add, J_sub, J_mul, J_lt, J_le, J_eq, xbr_true, xbr_false, xbr_pos, xbr_neg, Int.toNat_natCast, all_eq, ex_eq, p_T hq, s_pnext hq h (show p ≤ 10000 by omega), s_lt, if_pos c0, p_r1 hq, s_hasSpace hm3 h24, if_pos hm, s_draft hm3 h24, eb, p_p hq pr_x2, p_r2 hq, s_bookClear hm]
          rw [s_takeLetter hq h hm (by simp) lp]
          simp (disch := omega) only [J_add, J_sub, J_mul, J_lt, J_le, J_eq, xbr_true, xbr_false, xbr_pos, xbr_neg, Int.toNat_natCast, all_eq, ex_eq, pF_lay (bF hm (show 1 ≤ 1 by omega) (by omega)), dC_up (C := C) (m := m) (show 1 ≤ 1 by omega) (show 1 < 12 by omega), s_pnext hq h.d (show p + 1 ≤ 10000 by omega), s_lt, if_pos c2, p_r2 hq]
          rw [s_takeLetter hq h hm (by simp) lp1]
          simp (disch := omega) only [J_add, J_sub, J_mul, J_lt, J_le, J_eq, xbr_true, xbr_false, xbr_pos, xbr_neg, Int.toNat_natCast, all_eq, ex_eq, pF_lay (bF hm (show 1 ≤ 2 by omega) (by omega)), dC_up (C := C) (m := m) (show 1 ≤ 2 by omega) (show 2 < 12 by omega), sp, s_pnext hq h.d (show p + 2 ≤ 10000 by omega), s_lt, p_i3 hq]
          rfl
        by_cases c3 : isLt (tx (p + 2)) = true
        · have e : clA tx (decide (m = 24)) p = (2, p + 2) := by unfold clA; rw [if_neg (by simp [c0]), if_neg (by simpa using c1), if_pos (by simp [c2, c3])]
          rw [e]
          have hv : VOk (vA tx p) := by
            rw [evA]
            have := isLt_t c0
            have := isLt_t c2
            unfold VOk vup vz
            simp
            omega
          refine ⟨fun _ => FlC.mk hm hv ⟨8 + 3 * m, ((p + 2 : Nat) : Int), vl, bf, sA tx p, fun K => ?_⟩, fun q => by simp at q⟩
          have f2 := ef 2 (dC C m (vA tx p) (sA tx p)) (8 + 3 * m) ((p + 2 : Nat) : Int)
          show PX5_readClass q _ K = _
          rw [main, if_pos c3]
          simp (disch := omega) only [J_add, J_sub, J_mul, J_lt, J_le, J_eq, xbr_true, xbr_false, xbr_pos, xbr_neg, Int.toNat_natCast, all_eq, ex_eq]
          show PX5_fail q (J ((2 : Nat) : Int)) _ _ _ = _
          rw [f2]
          simp (disch := omega) only [J_add, J_sub, J_mul, J_lt, J_le, J_eq, xbr_true, xbr_false, xbr_pos, xbr_neg, Int.toNat_natCast, all_eq, ex_eq, isB0, true_and]
        · have e : clA tx (decide (m = 24)) p = (0, 0) := by unfold clA; rw [if_neg (by simp [c0]), if_neg (by simpa using c1), if_neg (by simp [c3])]
          rw [e]
          refine ⟨fun q => absurd rfl q, fun _ => ⟨⟨hm, c0⟩, fun K => ?_⟩⟩
          rw [main, if_neg c3, eq1]
          simp (disch := omega) only [J_add, J_sub, J_mul, J_lt, J_le, J_eq, xbr_true, xbr_false, xbr_pos, xbr_neg, Int.toNat_natCast, all_eq, ex_eq, isB1, true_and]
      · have e : clA tx (decide (m = 24)) p = (0, 0) := by unfold clA; rw [if_neg (by simp [c0]), if_neg (by simpa using c1), if_neg (by simp [c2])]
        rw [e]
        have eq1 : q1 tx p = p + 1 := by unfold q1; rw [if_neg c2]
        have evA : vA tx p = vup vz 1 (tx p - 96) := by unfold vA; rw [if_neg c2]
        have esA : sA tx p = [tx p] := by unfold sA; rw [if_neg c2]
        refine ⟨fun q => absurd rfl q, fun _ => ⟨⟨hm, c0⟩, fun K => ?_⟩⟩
        rw [eq1, evA, esA]
        unfold PX5_readClass
        simp (disch := omega) only [J_add, J_sub, J_mul, J_lt, J_le, J_eq, xbr_true, xbr_false, xbr_pos, xbr_neg, Int.toNat_natCast, all_eq, ex_eq, p_T hq, s_pnext hq h (show p ≤ 10000 by omega), s_lt, if_pos c0, p_r1 hq, s_hasSpace hm3 h24, if_pos hm, s_draft hm3 h24, eb, p_p hq pr_x2, p_r2 hq, s_bookClear hm]
        rw [s_takeLetter hq h hm (by simp) lp]
        simp (disch := omega) only [J_add, J_sub, J_mul, J_lt, J_le, J_eq, xbr_true, xbr_false, xbr_pos, xbr_neg, Int.toNat_natCast, all_eq, ex_eq, pF_lay (bF hm (show 1 ≤ 1 by omega) (by omega)), dC_up (C := C) (m := m) (show 1 ≤ 1 by omega) (show 1 < 12 by omega), s_pnext hq h.d (show p + 1 ≤ 10000 by omega), s_lt, if_neg c2, isB1, true_and]
        rfl
  · have e : clA tx (decide (m = 24)) p = (1, p) := by unfold clA; rw [if_pos (by simpa using c0)]
    rw [e]
    refine ⟨fun _ => ⟨C, d, (p : Nat), vl, bf, fun _ _ => rfl, id, fun K => ?_⟩, fun q => by simp at q⟩
    have f1 := ef 1 C d (p : Nat)
    unfold PX5_readClass
    simp (disch := omega) only [J_add, J_sub, J_mul, J_lt, J_le, J_eq, xbr_true, xbr_false, xbr_pos, xbr_neg, Int.toNat_natCast, all_eq, ex_eq, p_T hq, s_pnext hq h (show p ≤ 10000 by omega), s_lt, if_neg c0, p_i3 hq]
    show PX5_fail q (J ((1 : Nat) : Int)) _ _ _ = _
    rw [f1, isB0, true_and]
theorem s_readNumber (hq : z + 125 ≤ q) (h : TxC C n tx) (hm : m < 24) (hp : p ≤ n) (hl : sg.length + 4 ≤ 23) (hv : VOk v) :
    ((clB tx p).1 ≠ 0 → FlC z q g C m (clB tx p).1 (clB tx p).2 (fun K => PX5_readNumber q (lay z (prM g z q (8 + 3 * m) (p : Nat) kd0 pl vl bf) (dC C m v sg)) K)) ∧
    ((clB tx p).1 = 0 → ∃ x y : Int, ∀ K, PX5_readNumber q (lay z (prM g z q (8 + 3 * m) (p : Nat) kd0 pl vl bf) (dC C m v sg)) K = K (J 1) (lay z (prM g z q (8 + 3 * m) (q2 tx p : Nat) kd0 pl x y) (dC C m (vB tx p v) (sB tx p sg)))) := by
  have hn := h.2.1
  have b0 := h.b p
  obtain ⟨r1, r2⟩ := s_readFigures (g := g) (v := v) (kd0 := kd0) (pl := pl) (vl := vl) (bf := bf) hq h hm hp hl
  by_cases c0 : tx p = 48
  · have e : clB tx p = (1, p) := by unfold clB; rw [if_pos c0]
    rw [e]
    refine ⟨fun _ => FlC.mk hm hv ⟨8 + 3 * m, (p : Nat), vl, bf, sg, fun K => ?_⟩, fun q => by simp at q⟩
    unfold PX5_readNumber
    simp (disch := omega) only [J_add, J_sub, J_mul, J_lt, J_le, J_eq, xbr_true, xbr_false, xbr_pos, xbr_neg, Int.toNat_natCast, all_eq, ex_eq, p_T hq, s_pnext hq h.d (show p ≤ 10000 by omega), c0, p_i3 hq, s_fail hq, isB0, true_and]
    rfl
  · by_cases c1 : fgF tx p = 0
    · have e : clB tx p = (0, 0) := by unfold clB; rw [if_neg c0, if_neg (by omega)]
      rw [e]
      refine ⟨fun q => absurd rfl q, fun _ => ⟨wholeD (dgs tx p) (fgN tx p), filD (dgs tx p) (fgN tx p), fun K => ?_⟩⟩
      have r := r1 c1
      unfold PX5_readNumber vB sB q2
      simp (disch := omega) only [J_add, J_sub, J_mul, J_lt, J_le, J_eq, xbr_true, xbr_false, xbr_pos, xbr_neg, Int.toNat_natCast, all_eq, ex_eq, p_T hq, s_pnext hq h.d (show p ≤ 10000 by omega), r, p_r2 hq, p_i6 hq, p_i7 hq, pF_lay (bF hm (show 1 ≤ 3 by omega) (by omega)), dC_up (C := C) (m := m) (show 1 ≤ 3 by omega) (show 3 < 12 by omega), pF_lay (bF hm (show 1 ≤ 4 by omega) (by omega)), dC_up (C := C) (m := m) (show 1 ≤ 4 by omega) (show 4 < 12 by omega), isB1, true_and]
    · have e : clB tx p = (fgF tx p, p + fgN tx p) := by unfold clB; rw [if_neg c0, if_pos c1]
      rw [e]
      obtain ⟨a, x, y, sg', r⟩ := r2 c1
      refine ⟨fun _ => FlC.mk hm hv ⟨8 + 3 * m, a, x, y, sg', fun K => ?_⟩, fun q => absurd q c1⟩
      unfold PX5_readNumber
      simp (disch := omega) only [J_add, J_sub, J_mul, J_lt, J_le, J_eq, xbr_true, xbr_false, xbr_pos, xbr_neg, Int.toNat_natCast, all_eq, ex_eq, p_T hq, s_pnext hq h.d (show p ≤ 10000 by omega), r, isB0, true_and]
theorem s_readDecimals (hq : z + 125 ≤ q) (h : TxC C n tx) (hm : m < 24) (hp : p ≤ n) (hl : sg.length + 5 ≤ 23) (hv : VOk v) :
    ((clD tx p).1 ≠ 0 → FlC z q g C m (clD tx p).1 (clD tx p).2 (fun K => PX5_readDecimals q (lay z (prM g z q (8 + 3 * m) (p : Nat) kd0 pl vl bf) (dC C m v sg)) K)) ∧
    ((clD tx p).1 = 0 → ∃ x y : Int, ∀ K, PX5_readDecimals q (lay z (prM g z q (8 + 3 * m) (p : Nat) kd0 pl vl bf) (dC C m v sg)) K = K (J 1) (lay z (prM g z q (8 + 3 * m) (q3 tx p : Nat) kd0 pl x y) (dC C m (vD tx p v) (sD tx p sg)))) := by
  have hn := h.2.1
  have b0 := h.b p
  have b1 := h.b (p + 1)
  have e1 : (p : Int) + 1 = ((p + 1 : Nat) : Int) := by omega
  by_cases c0 : tx p = 46
  · have lp : p < n := b0.2.2 (by omega)
    by_cases c1 : isFg (tx (p + 1)) = true
    · have hD : hasD tx p = true := by unfold hasD; simp [c0, c1]
      obtain ⟨r1, r2⟩ := s_readFigures (g := g) (v := v) (sg := sg ++ [tx p]) (kd0 := kd0) (pl := pl) (vl := vl) (bf := bf) hq h hm (show p + 1 ≤ n by omega) (by simp; omega)
      have ts := fun K => s_takeSign (K := K) (g := g) (v := v) (sg := sg) (kd0 := kd0) (pl := pl) (vl := vl) (bf := bf) hq h hm (by omega) lp
      by_cases c2 : fgF tx (p + 1) = 0
      · have e : clD tx p = (0, 0) := by unfold clD; rw [if_neg (fun q => q.2 c2)]
        rw [e]
        refine ⟨fun q => absurd rfl q, fun _ => ⟨wholeD (dgs tx (p + 1)) (fgN tx (p + 1)), filD (dgs tx (p + 1)) (fgN tx (p + 1)), fun K => ?_⟩⟩
        have r := r1 c2
        unfold PX5_readDecimals vD sD q3
        rw [if_pos hD, if_pos hD, if_pos hD]
        simp (disch := omega) only [J_add, J_sub, J_mul, J_lt, J_le, J_eq, xbr_true, xbr_false, xbr_pos, xbr_neg, Int.toNat_natCast, all_eq, ex_eq, p_T hq, s_pnext hq h.d (show p ≤ 10000 by omega), c0, p_r0 hq, p_i3 hq, e1, s_ptx h.d (show p + 1 ≤ 10000 by omega), s_fg, if_pos c1]
        rw [ts]
        simp (disch := omega) only [J_add, J_sub, J_mul, J_lt, J_le, J_eq, xbr_true, xbr_false, xbr_pos, xbr_neg, Int.toNat_natCast, all_eq, ex_eq, r, p_r2 hq, p_i6 hq, p_i7 hq, pF_lay (bF hm (show 1 ≤ 5 by omega) (by omega)), dC_up (C := C) (m := m) (show 1 ≤ 5 by omega) (show 5 < 12 by omega), pF_lay (bF hm (show 1 ≤ 6 by omega) (by omega)), dC_up (C := C) (m := m) (show 1 ≤ 6 by omega) (show 6 < 12 by omega), isB1, true_and]
        rw [c0]
      · have e : clD tx p = (fgF tx (p + 1), p + 1 + fgN tx (p + 1)) := by unfold clD; rw [if_pos ⟨hD, c2⟩]
        rw [e]
        obtain ⟨a, x, y, sg', r⟩ := r2 c2
        refine ⟨fun _ => FlC.mk hm hv ⟨8 + 3 * m, a, x, y, sg', fun K => ?_⟩, fun q => absurd q c2⟩
        unfold PX5_readDecimals
        simp (disch := omega) only [J_add, J_sub, J_mul, J_lt, J_le, J_eq, xbr_true, xbr_false, xbr_pos, xbr_neg, Int.toNat_natCast, all_eq, ex_eq, p_T hq, s_pnext hq h.d (show p ≤ 10000 by omega), c0, p_r0 hq, p_i3 hq, e1, s_ptx h.d (show p + 1 ≤ 10000 by omega), s_fg, if_pos c1]
        rw [ts]
        simp (disch := omega) only [J_add, J_sub, J_mul, J_lt, J_le, J_eq, xbr_true, xbr_false, xbr_pos, xbr_neg, Int.toNat_natCast, all_eq, ex_eq, r, isB0, true_and]
    · have hD : ¬ hasD tx p = true := by unfold hasD; simp [c1]
      have e : clD tx p = (0, 0) := by unfold clD; rw [if_neg (fun q => hD q.1)]
      rw [e]
      refine ⟨fun q => absurd rfl q, fun _ => ⟨vl, bf, fun K => ?_⟩⟩
      unfold PX5_readDecimals vD sD q3
      rw [if_neg hD, if_neg hD, if_neg hD]
      simp (disch := omega) only [J_add, J_sub, J_mul, J_lt, J_le, J_eq, xbr_true, xbr_false, xbr_pos, xbr_neg, Int.toNat_natCast, all_eq, ex_eq, p_T hq, s_pnext hq h.d (show p ≤ 10000 by omega), c0, p_r0 hq, p_i3 hq, e1, s_ptx h.d (show p + 1 ≤ 10000 by omega), s_fg, if_neg c1, isB1, true_and]
  · have hD : ¬ hasD tx p = true := by unfold hasD; simp [c0]
    have e : clD tx p = (0, 0) := by unfold clD; rw [if_neg (fun q => hD q.1)]
    rw [e]
    refine ⟨fun q => absurd rfl q, fun _ => ⟨vl, bf, fun K => ?_⟩⟩
    unfold PX5_readDecimals vD sD q3
    rw [if_neg hD, if_neg hD, if_neg hD]
    simp (disch := omega) only [J_add, J_sub, J_mul, J_lt, J_le, J_eq, xbr_true, xbr_false, xbr_pos, xbr_neg, Int.toNat_natCast, all_eq, ex_eq, p_T hq, s_pnext hq h.d (show p ≤ 10000 by omega), isB1, true_and]
theorem s_readCutter (hq : z + 125 ≤ q) (h : TxC C n tx) (hm : m < 24) (hp : p ≤ n) (hl : sg.length + 6 ≤ 23) (hv : VOk v) :
    ((clC tx p).1 ≠ 0 → FlC z q g C m (clC tx p).1 (clC tx p).2 (fun K => PX5_readCutter q (lay z (prM g z q (8 + 3 * m) (p : Nat) kd0 pl vl bf) (dC C m v sg)) K)) ∧
    ((clC tx p).1 = 0 → ∃ x y : Int, ∀ K, PX5_readCutter q (lay z (prM g z q (8 + 3 * m) (p : Nat) kd0 pl vl bf) (dC C m v sg)) K = K (J 1) (lay z (prM g z q (8 + 3 * m) (q4 tx p : Nat) kd0 pl x y) (dC C m (vC tx p v) (sC tx p sg)))) := by
  have hn := h.2.1
  have b0 := h.b p
  have b1 := h.b (p + 1)
  have sp : p + 1 + 1 = p + 2 := rfl
  by_cases c0 : tx p = 46
  · have lp : p < n := b0.2.2 (by omega)
    have ts := fun K => s_takeSign (K := K) (g := g) (v := v) (sg := sg) (kd0 := kd0) (pl := pl) (vl := vl) (bf := bf) hq h hm (by omega) lp
    by_cases c1 : isLt (tx (p + 1)) = true
    · have lp1 : p + 1 < n := b1.2.2 (by have := isLt_t c1; omega)
      have hv7 : VOk (vup v 7 (tx (p + 1) - 96)) := by
        have := isLt_t c1
        unfold VOk at hv ⊢
        unfold vup
        simp
        omega
      have tl := fun K => s_takeLetter (K := K) (g := g) (v := v) (sg := sg ++ [tx p]) (kd0 := kd0) (pl := pl) (vl := vl) (bf := bf) hq h hm (by simp; omega) lp1
      obtain ⟨r1, r2⟩ := s_readFigures (g := g) (v := vup v 7 (tx (p + 1) - 96)) (sg := (sg ++ [tx p]) ++ [tx (p + 1)]) (kd0 := kd0) (pl := pl) (vl := vl) (bf := bf) hq h hm (show p + 2 ≤ n by omega) (by simp; omega)
      by_cases c2 : fgF tx (p + 2) = 0
      · have e : clC tx p = (0, 0) := by unfold clC; rw [if_pos c0, if_neg (by simp [c1]), if_neg (by omega)]
        rw [e]
        refine ⟨fun q => absurd rfl q, fun _ => ⟨wholeD (dgs tx (p + 2)) (fgN tx (p + 2)), filD (dgs tx (p + 2)) (fgN tx (p + 2)), fun K => ?_⟩⟩
        have r := r1 c2
        unfold PX5_readCutter vC sC q4
        rw [if_pos c0, if_pos c0, if_pos c0]
        simp (disch := omega) only [J_add, J_sub, J_mul, J_lt, J_le, J_eq, xbr_true, xbr_false, xbr_pos, xbr_neg, Int.toNat_natCast, all_eq, ex_eq, p_T hq, s_pnext hq h.d (show p ≤ 10000 by omega), c0]
        rw [ts]
        simp (disch := omega) only [J_add, J_sub, J_mul, J_lt, J_le, J_eq, xbr_true, xbr_false, xbr_pos, xbr_neg, Int.toNat_natCast, all_eq, ex_eq, s_pnext hq h.d (show p + 1 ≤ 10000 by omega), s_lt, if_pos c1, p_r2 hq]
        rw [tl]
        simp (disch := omega) only [J_add, J_sub, J_mul, J_lt, J_le, J_eq, xbr_true, xbr_false, xbr_pos, xbr_neg, Int.toNat_natCast, all_eq, ex_eq, pF_lay (bF hm (show 1 ≤ 7 by omega) (by omega)), dC_up (C := C) (m := m) (show 1 ≤ 7 by omega) (show 7 < 12 by omega), sp, r, p_r2 hq, p_i6 hq, p_i7 hq, pF_lay (bF hm (show 1 ≤ 8 by omega) (by omega)), dC_up (C := C) (m := m) (show 1 ≤ 8 by omega) (show 8 < 12 by omega), pF_lay (bF hm (show 1 ≤ 9 by omega) (by omega)), dC_up (C := C) (m := m) (show 1 ≤ 9 by omega) (show 9 < 12 by omega), isB1, true_and]
        rw [c0]
      · have e : clC tx p = (fgF tx (p + 2), p + 2 + fgN tx (p + 2)) := by unfold clC; rw [if_pos c0, if_neg (by simp [c1]), if_pos c2]
        rw [e]
        obtain ⟨a, x, y, sg', r⟩ := r2 c2
        refine ⟨fun _ => FlC.mk hm hv7 ⟨8 + 3 * m, a, x, y, sg', fun K => ?_⟩, fun q => absurd q c2⟩
        unfold PX5_readCutter
        simp (disch := omega) only [J_add, J_sub, J_mul, J_lt, J_le, J_eq, xbr_true, xbr_false, xbr_pos, xbr_neg, Int.toNat_natCast, all_eq, ex_eq, p_T hq, s_pnext hq h.d (show p ≤ 10000 by omega), c0]
        rw [ts]
        simp (disch := omega) only [J_add, J_sub, J_mul, J_lt, J_le, J_eq, xbr_true, xbr_false, xbr_pos, xbr_neg, Int.toNat_natCast, all_eq, ex_eq, s_pnext hq h.d (show p + 1 ≤ 10000 by omega), s_lt, if_pos c1, p_r2 hq]
        rw [tl]
        simp (disch := omega) only [J_add, J_sub, J_mul, J_lt, J_le, J_eq, xbr_true, xbr_false, xbr_pos, xbr_neg, Int.toNat_natCast, all_eq, ex_eq, pF_lay (bF hm (show 1 ≤ 7 by omega) (by omega)), dC_up (C := C) (m := m) (show 1 ≤ 7 by omega) (show 7 < 12 by omega), sp, r, isB0, true_and]
    · have e : clC tx p = (1, p + 1) := by unfold clC; rw [if_pos c0, if_pos (by simpa using c1)]
      rw [e]
      refine ⟨fun _ => FlC.mk hm hv ⟨8 + 3 * m, ((p + 1 : Nat) : Int), vl, bf, sg ++ [tx p], fun K => ?_⟩, fun q => by simp at q⟩
      unfold PX5_readCutter
      simp (disch := omega) only [J_add, J_sub, J_mul, J_lt, J_le, J_eq, xbr_true, xbr_false, xbr_pos, xbr_neg, Int.toNat_natCast, all_eq, ex_eq, p_T hq, s_pnext hq h.d (show p ≤ 10000 by omega), c0]
      rw [ts]
      simp (disch := omega) only [J_add, J_sub, J_mul, J_lt, J_le, J_eq, xbr_true, xbr_false, xbr_pos, xbr_neg, Int.toNat_natCast, all_eq, ex_eq, s_pnext hq h.d (show p + 1 ≤ 10000 by omega), s_lt, if_neg c1, p_i3 hq, s_fail hq, isB0, true_and]
      rw [c0]
      rfl
  · have e : clC tx p = (0, 0) := by unfold clC; rw [if_neg c0]
    rw [e]
    refine ⟨fun q => absurd rfl q, fun _ => ⟨vl, bf, fun K => ?_⟩⟩
    unfold PX5_readCutter vC sC q4
    rw [if_neg c0, if_neg c0, if_neg c0]
    simp (disch := omega) only [J_add, J_sub, J_mul, J_lt, J_le, J_eq, xbr_true, xbr_false, xbr_pos, xbr_neg, Int.toNat_natCast, all_eq, ex_eq, p_T hq, s_pnext hq h.d (show p ≤ 10000 by omega), isB1, true_and]
theorem s_readYear (hq : z + 125 ≤ q) (h : TxC C n tx) (hm : m < 24) (hp : p < n) (hl : sg.length + 6 ≤ 23) (hv : VOk v) :
    (fgN tx (p + 1) < 4 → FlC z q g C m 1 (p + 1 + fgN tx (p + 1)) (fun K => PX5_readYear q (lay z (prM g z q (8 + 3 * m) (p : Nat) kd0 pl vl bf) (dC C m v sg)) K)) ∧
    (fgN tx (p + 1) = 4 → ¬ (1000 ≤ wholeD (dgs tx (p + 1)) 4 ∧ wholeD (dgs tx (p + 1)) 4 ≤ 2999) → FlC z q g C m 3 (p + 1) (fun K => PX5_readYear q (lay z (prM g z q (8 + 3 * m) (p : Nat) kd0 pl vl bf) (dC C m v sg)) K)) ∧
    (fgN tx (p + 1) = 4 → (1000 ≤ wholeD (dgs tx (p + 1)) 4 ∧ wholeD (dgs tx (p + 1)) 4 ≤ 2999) → ∃ x y : Int, ∀ K, PX5_readYear q (lay z (prM g z q (8 + 3 * m) (p : Nat) kd0 pl vl bf) (dC C m v sg)) K = K (J 1) (lay z (prM g z q (8 + 3 * m) (p + 5 : Nat) kd0 pl x y) (dC C m (vup v 10 (wholeD (dgs tx (p + 1)) 4)) (((sg ++ [32]) ++ [tx p]) ++ fgL tx (p + 1) 4)))) := by
  have hn := h.2.1
  have f4 := fgN_le (tx := tx) (p := p + 1)
  have fn := fgN_n h (p := p + 1) (by omega)
  have ts := fun K => s_takeSign (K := K) (g := g) (v := v) (sg := sg ++ [32]) (kd0 := kd0) (pl := pl) (vl := vl) (bf := bf) hq h hm (by simp; omega) hp
  have main : ∀ K, PX5_readYear q (lay z (prM g z q (8 + 3 * m) (p : Nat) kd0 pl vl bf) (dC C m v sg)) K = lp (BX5_readYear_29 K q (J ((p + 1 : Nat) : Int))) (lay z (prM g z q (8 + 3 * m) ((p + 1 + fgN tx (p + 1) : Nat) : Int) kd0 pl (wholeD (dgs tx (p + 1)) (fgN tx (p + 1))) bf) (dC C m v (((sg ++ [32]) ++ [tx p]) ++ fgL tx (p + 1) (fgN tx (p + 1)))), J (fgN tx (p + 1) : Nat)) := by
    intro K
    have key : ∀ i, i ≤ fgN tx (p + 1) → lp (BX5_readYear_29 K q (J ((p + 1 : Nat) : Int))) (lay z (prM g z q (8 + 3 * m) ((p + 1 : Nat) : Int) kd0 pl 0 bf) (dC C m v ((sg ++ [32]) ++ [tx p])), J 0) = lp (BX5_readYear_29 K q (J ((p + 1 : Nat) : Int))) (lay z (prM g z q (8 + 3 * m) ((p + 1 + i : Nat) : Int) kd0 pl (wholeD (dgs tx (p + 1)) i) bf) (dC C m v (((sg ++ [32]) ++ [tx p]) ++ fgL tx (p + 1) i)), J (i : Nat)) := by
      intro i
      induction i with
      | zero => intro _; simp [fgL, wholeD]
      | succ i ih =>
        intro hi
        rw [ih (by omega)]
        have ai := fgN_at (tx := tx) (p := p + 1) (j := i) (by omega)
        have li := fgN_lt h (p := p + 1) (j := i) (by omega)
        have bi := h.b (p + 1 + i)
        have yi : isFg (tx (p + 1 + i)) = true := decide_eq_true ai
        have ll : (((sg ++ [32]) ++ [tx p]) ++ fgL tx (p + 1) i).length < 23 := by rw [List.length_append, fgL_len]; simp; omega
        have ei : p + 1 + i + 1 = p + 1 + (i + 1) := by omega
        have ej : (i : Int) + 1 = ((i + 1 : Nat) : Int) := by omega
        have wr := wh_r (k := i) (by omega) (fun j hj => dgs_r (tx := tx) (p := p + 1) (j := j) (by omega))
        have ew : wholeD (dgs tx (p + 1)) i * 10 + tx (p + 1 + i) - 48 = wholeD (dgs tx (p + 1)) (i + 1) := by
          show _ = 10 * wholeD (dgs tx (p + 1)) i + dgs tx (p + 1) i
          unfold dgs; omega
        refine lp_step fun kc => ?_
        unfold BX5_readYear_29 CX5_readYear_29
        simp (disch := omega) only [J_add, J_sub, J_mul, J_lt, J_le, J_eq, xbr_true, xbr_false, xbr_pos, xbr_neg, Int.toNat_natCast, all_eq, ex_eq, s_pnext hq h.d (show p + 1 + i ≤ 10000 by omega), s_fg, if_pos yi, p_i6 hq, s_takeSign hq h hm ll li, p_p hq pr_x6, ew, ej, ei]
        rw [fgL_succ, List.append_assoc]
    unfold PX5_readYear
    simp (disch := omega) only [J_add, J_sub, J_mul, J_lt, J_le, J_eq, xbr_true, xbr_false, xbr_pos, xbr_neg, Int.toNat_natCast, all_eq, ex_eq, p_T hq, p_r2 hq, gR_lay (bS hm), s_draftApp hm (show sg.length < 23 by omega)]
    rw [ts]
    simp (disch := omega) only [J_add, J_sub, J_mul, J_lt, J_le, J_eq, xbr_true, xbr_false, xbr_pos, xbr_neg, Int.toNat_natCast, all_eq, ex_eq, p_i3 hq, p_p hq pr_x6]
    exact key _ (Nat.le_refl _)
  refine ⟨fun c => ?_, fun c c2 => ?_, fun c c2 => ?_⟩
  · refine FlC.mk hm hv ⟨8 + 3 * m, ((p + 1 + fgN tx (p + 1) : Nat) : Int), wholeD (dgs tx (p + 1)) (fgN tx (p + 1)), bf, ((sg ++ [32]) ++ [tx p]) ++ fgL tx (p + 1) (fgN tx (p + 1)), fun K => ?_⟩
    have nf := fgN_end (tx := tx) (p := p + 1) c
    have bi := h.b (p + 1 + fgN tx (p + 1))
    show PX5_readYear q _ K = _
    rw [main]
    refine lp_last fun kc => ?_
    unfold BX5_readYear_29 CX5_readYear_29
    simp (disch := omega) only [J_add, J_sub, J_mul, J_lt, J_le, J_eq, xbr_true, xbr_false, xbr_pos, xbr_neg, Int.toNat_natCast, all_eq, ex_eq, s_pnext hq h.d (show p + 1 + fgN tx (p + 1) ≤ 10000 by omega), s_fg, if_neg nf, p_i3 hq, s_fail hq, isB0, true_and]
    rfl
  · have wr : 0 ≤ wholeD (dgs tx (p + 1)) 4 ∧ wholeD (dgs tx (p + 1)) 4 ≤ 9999 := wh_r (k := 4) (by omega) (fun j hj => dgs_r (tx := tx) (p := p + 1) (j := j) (by omega))
    refine FlC.mk hm hv ⟨8 + 3 * m, ((p + 1 + fgN tx (p + 1) : Nat) : Int), wholeD (dgs tx (p + 1)) (fgN tx (p + 1)), bf, ((sg ++ [32]) ++ [tx p]) ++ fgL tx (p + 1) (fgN tx (p + 1)), fun K => ?_⟩
    show PX5_readYear q _ K = _
    rw [main, c]
    refine lp_last fun kc => ?_
    unfold BX5_readYear_29 CX5_readYear_29 JX5_readYear_99
    by_cases c3 : wholeD (dgs tx (p + 1)) 4 < 1000
    · simp (disch := omega) only [J_add, J_sub, J_mul, J_lt, J_le, J_eq, xbr_true, xbr_false, xbr_pos, xbr_neg, Int.toNat_natCast, all_eq, ex_eq, p_i6 hq, s_fail hq, isB0, true_and]
      rfl
    · simp (disch := omega) only [J_add, J_sub, J_mul, J_lt, J_le, J_eq, xbr_true, xbr_false, xbr_pos, xbr_neg, Int.toNat_natCast, all_eq, ex_eq, p_i6 hq, s_fail hq, isB0, true_and]
      rfl
  · refine ⟨wholeD (dgs tx (p + 1)) 4, bf, fun K => ?_⟩
    rw [main, c]
    refine lp_last fun kc => ?_
    unfold BX5_readYear_29 CX5_readYear_29
    simp (disch := omega) only [J_add, J_sub, J_mul, J_lt, J_le, J_eq, xbr_true, xbr_false, xbr_pos, xbr_neg, Int.toNat_natCast, all_eq, ex_eq, p_i6 hq, p_r2 hq, pF_lay (bF hm (show 1 ≤ 10 by omega) (by omega)), dC_up (C := C) (m := m) (show 1 ≤ 10 by omega) (show 10 < 12 by omega), isB1, true_and]
theorem s_readThick (hq : z + 125 ≤ q) (h : TxC C n tx) (hm : m < 24) (hp : p < n) (hv : VOk v) :
    (¬ (49 ≤ tx (p + 1) ∧ tx (p + 1) ≤ 57) → FlC z q g C m 1 (p + 1) (fun K => PX5_readThickness q (lay z (prM g z q (8 + 3 * m) (p : Nat) kd0 pl vl bf) (dC C m v sg)) K)) ∧
    ((49 ≤ tx (p + 1) ∧ tx (p + 1) ≤ 57) → ∀ K, PX5_readThickness q (lay z (prM g z q (8 + 3 * m) (p : Nat) kd0 pl vl bf) (dC C m v sg)) K = K (J 1) (lay z (prM g z q (8 + 3 * m) (p + 2 : Nat) kd0 pl vl bf) (dC C m (vup v 11 (tx (p + 1) - 48)) sg))) := by
  have hn := h.2.1
  have b1 := h.b (p + 1)
  have e1 : (p : Int) + 1 = ((p + 1 : Nat) : Int) := by omega
  have e2 : ((p + 1 : Nat) : Int) + 1 = ((p + 2 : Nat) : Int) := by omega
  constructor
  · intro c
    refine FlC.mk hm hv ⟨8 + 3 * m, ((p + 1 : Nat) : Int), vl, bf, sg, fun K => ?_⟩
    unfold PX5_readThickness JX5_readThickness_29
    by_cases c1 : isFg (tx (p + 1)) = true
    · have := isFg_t c1
      have c2 : tx (p + 1) = 48 := by omega
      rw [c2] at c1
      simp (disch := omega) only [J_add, J_sub, J_mul, J_lt, J_le, J_eq, xbr_true, xbr_false, xbr_pos, xbr_neg, Int.toNat_natCast, all_eq, ex_eq, p_T hq, p_i3 hq, p_p hq pr_x3, e1, s_pnext hq h.d (show p + 1 ≤ 10000 by omega), s_fg, if_pos c1, c2, s_fail hq, isB0, true_and]
      rfl
    · simp (disch := omega) only [J_add, J_sub, J_mul, J_lt, J_le, J_eq, xbr_true, xbr_false, xbr_pos, xbr_neg, Int.toNat_natCast, all_eq, ex_eq, p_T hq, p_i3 hq, p_p hq pr_x3, e1, s_pnext hq h.d (show p + 1 ≤ 10000 by omega), s_fg, if_neg c1, s_fail hq, isB0, true_and]
      rfl
  · intro c K
    have c1 : isFg (tx (p + 1)) = true := decide_eq_true (by omega)
    unfold PX5_readThickness
    simp (disch := omega) only [J_add, J_sub, J_mul, J_lt, J_le, J_eq, xbr_true, xbr_false, xbr_pos, xbr_neg, Int.toNat_natCast, all_eq, ex_eq, p_T hq, p_i3 hq, p_p hq pr_x3, e1, s_pnext hq h.d (show p + 1 ≤ 10000 by omega), s_fg, if_pos c1, p_r2 hq, pF_lay (bF hm (show 1 ≤ 11 by omega) (by omega)), dC_up (C := C) (m := m) (show 1 ≤ 11 by omega) (show 11 < 12 by omega), e2, isB1, true_and]
end STG2
