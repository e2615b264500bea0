/-! READING A TEXT: the reference, part by part (2) -/
section RPD
variable (tx : Nat → Int) (n : Nat)
def PA (p : Nat) (P : Nat → Int) : Nat → Int := vup (vup P 0 (tx p - 97)) 1 (if isLt (tx (p + 1)) then tx (p + 1) - 97 else -1)
def PB (p : Nat) (P : Nat → Int) : Nat → Int := pdg P tx 2 p (fgN tx p)
def PD (p : Nat) (P : Nat → Int) : Nat → Int := if hasD tx p then pdg (vup P 10 (-1)) tx 6 (p + 1) (fgN tx (p + 1)) else vup P 10 (-1)
def PC (p : Nat) (P : Nat → Int) : Nat → Int := if tx p = 46 then pdg (vup P 10 (tx (p + 1) - 97)) tx 11 (p + 2) (fgN tx (p + 2)) else P
def PY (p : Nat) (P : Nat → Int) : Nat → Int := if hasY tx n p then vup P 15 (yrT tx n p) else vup P 15 (-1)
def kD (p : Nat) : Int := if hasD tx p then (fgN tx (p + 1) : Nat) else 0
def kC (p : Nat) : Int := if tx p = 46 then (fgN tx (p + 2) : Nat) else 0
def wW (p : Nat) : Int := if hasW tx n p then tx (q5 tx n p + 1) - 48 else 2
/-- the reference's class, with the figure behind it -/
def clA2 (full : Bool) (p : Nat) : Nat × Nat := if (clA tx full p).1 ≠ 0 then clA tx full p else if tx (q1 tx p) = 48 then (1, q1 tx p) else (0, 0)
/-- the reference's points and cutter -/
def clP (p : Nat) : Nat × Nat := if (clD tx p).1 ≠ 0 then clD tx p else clC tx (q3 tx p)
end RPD
def FrM (C C' : Nat → Nat → Int) (m : Nat) : Prop := (∀ o, o < 104 ∨ 109 < o → C' o = C o) ∧ (∀ j, j ≠ 14 → j ≠ 15 → j ≠ 17 → C' 104 j = C 104 j) ∧ (∀ b i, b < m → i < 16 → C' 105 (16 * b + i) = C 105 (16 * b + i)) ∧ (∀ a b, 106 ≤ a → a ≤ 109 → b ≠ m → C' a b = C a b)
def FlM (z : Nat) (g : Mem) (C : Nat → Nat → Int) (m f pl : Nat) (X : (Int32 → Mem → Prop) → Prop) : Prop := ∃ C' : Nat → Nat → Int, FrM C C' m ∧ (GDig C → GDig C') ∧ C' 104 14 = pl ∧ ∀ K, X K = K (J (f : Nat)) (lay z g C')
section RPT
variable {z n m p : Nat} {g : Mem} {C C' : Nat → Nat → Int} {P : Nat → Int} {k1 k2 k3 w at0 fg fp : Int} {tx : Nat → Int}
theorem FrM.r : FrM C (rM C m P k1 k2 k3 w at0 fg fp) m := ⟨fun o ho => rM_ne ho, fun j h1 h2 h3 => rM_104 ⟨h1, h2, h3⟩, fun b i hb hi => rM_o hb hi, fun a b h1 h2 hb => rM_ob h1 h2 hb⟩
theorem FlM.mk {f pl : Nat} {X : (Int32 → Mem → Prop) → Prop} (hP : m < 24 → POk P) (hp : fp = pl) (h : ∀ K, X K = K (J (f : Nat)) (lay z g (rM C m P k1 k2 k3 w at0 fg fp))) : FlM z g C m f pl X := ⟨_, FrM.r, fun hg => hg.r hP, by rw [rM_14]; exact hp, h⟩
theorem vup_vup {i : Nat} {x y : Int} : vup (vup P i x) i y = vup P i y := by
  funext j; unfold vup; split <;> rfl
theorem POk.v {i : Nat} {x : Int} (h : POk P) (hi : i = 0 ∨ i = 1 ∨ i = 10 ∨ i = 15) : POk (vup P i x) := fun j hj => by
  unfold vup; rw [if_neg (by omega)]; exact h j hj
theorem POk.d {f : Nat} (h : POk P) : POk (pdg P tx f p (fgN tx p)) := fun j hj => by
  unfold pdg
  by_cases c : f ≤ j ∧ j < f + fgN tx p
  · rw [if_pos c]
    have := fgN_at (tx := tx) (p := p) (j := j - f) (by omega)
    omega
  · rw [if_neg c]; exact h j hj
theorem m_takeClass (h : TxM C n tx) (h16 : C 104 16 = m) (h24 : m ≤ 24) (hp : p < n) (hP : m < 24 → POk P) {x : Int} (hx : m < 24 → x = 16 * (m : Int)) :
    ((clA2 tx (decide (m = 24)) p).1 ≠ 0 → FlM z g C m (clA2 tx (decide (m = 24)) p).1 (clA2 tx (decide (m = 24)) p).2 (fun K => PX11_takeClass (ad z 104) (J x) (lay z g (rM C m P k1 k2 k3 w (p : Nat) fg fp)) K)) ∧
    ((clA2 tx (decide (m = 24)) p).1 = 0 → (m < 24 ∧ isLt (tx p) = true) ∧ ∀ K, PX11_takeClass (ad z 104) (J x) (lay z g (rM C m P k1 k2 k3 w (p : Nat) fg fp)) K = K (J 0) (lay z g (rM C m (PA tx p P) k1 k2 k3 w (q1 tx p : Nat) fg fp))) := by
  have hn := h.2.1
  have b0 := h.b p
  have b1 := h.b (p + 1)
  have b2 := h.b (p + 2)
  have r16 : ∀ P k1 k2 k3 w at0 fg fp, rM C m P k1 k2 k3 w at0 fg fp 104 16 = m := fun P k1 k2 k3 w at0 fg fp => by rw [rM_104 (by omega)]; exact h16
  by_cases c0 : isLt (tx p) = true
  · by_cases c1 : m = 24
    · have e : clA2 tx (decide (m = 24)) p = (4, p) := by
        have e' : clA tx (decide (m = 24)) p = (4, p) := by unfold clA; rw [if_neg (by simp [c0]), if_pos (by simpa using c1)]
        unfold clA2; rw [e', if_pos (by simp)]
      rw [e]
      refine ⟨fun _ => FlM.mk (k1 := k1) (k2 := k2) (k3 := k3) (w := w) (at0 := (p : Nat)) (fg := fg) (fp := (p : Nat)) hP rfl fun K => ?_, fun q => by simp at q⟩
      have c1' : (m : Int) = 24 := by omega
      unfold PX11_takeClass
      simp (disch := omega) only [J_add, J_sub, J_mul, J_lt, J_le, J_eq, xbr_true, xbr_false, xbr_pos, xbr_neg, Int.toNat_natCast, all_eq, ex_eq, t_0, q_0_0, q_0_1, q_0_2, q_0_3, q_0_4, q_0_5, q_0_6, q_0_7, q_0_8, q_0_9, i_0_10, p_0_10, i_0_11, p_0_11, i_0_12, p_0_12, t_1, q_1_0, t_3, q_3_0, q_3_1, i_3_2, p_3_2, i_3_3, p_3_3, t_80, q_80_0, t_88, q_88_0, t_90, q_90_0, t_92, q_92_0, q_92_1, q_92_2, i_92_3, p_92_3, i_92_4, p_92_4, t_96, q_96_0, i_96_1, p_96_1, i_96_2, p_96_2, i_96_3, p_96_3, t_100, q_100_0, i_100_1, p_100_1, i_100_2, p_100_2, i_100_3, p_100_3, t_104, q_104_1, q_104_2, q_104_3, q_104_4, q_104_5, q_104_6, q_104_8, q_104_9, q_104_11, q_104_12, q_104_18, q_104_21, q_104_22, q_104_23, q_104_24, q_104_26, q_104_27, q_104_28, q_104_30, q_104_31, i_104_0, p_104_0, i_104_7, p_104_7, i_104_10, p_104_10, i_104_13, p_104_13, i_104_14, p_104_14, i_104_15, p_104_15, i_104_16, p_104_16, i_104_17, p_104_17, i_104_19, p_104_19, i_104_20, p_104_20, i_104_25, p_104_25, i_104_29, p_104_29, a_2, w_2, a_81, w_81, a_89, w_89, a_91, w_91, a_93, w_93, a_94, w_94, a_95, w_95, a_105, w_105, a_106, w_106, a_107, w_107, a_108, w_108, a_109, w_109, a_110, w_110, a_111, w_111, a_112, w_112, a_113, w_113, a_114, w_114, a_115, w_115, a_116, w_116, a_117, w_117, a_118, w_118, a_119, w_119, a_120, w_120, a_121, w_121, a_122, w_122, a_123, w_123, a_124, w_124, m_lt h.r rM_15 (show p ≤ 10000 by omega), if_pos c0, r16, c1', rM_15, m_fails, up_14]
      rfl
    · have hm : m < 24 := by omega
      have hx' := hx hm
      have lp : p < n := hp
      have t0 : (16 * (m : Int)).toNat = 16 * m + 0 := by omega
      have t1 : (16 * (m : Int) + 1).toNat = 16 * m + 1 := by omega
      have e1 : (p : Int) + 1 = ((p + 1 : Nat) : Int) := by omega
      have e2 : ((p + 1 : Nat) : Int) + 1 = ((p + 2 : Nat) : Int) := by omega
      -- behind the letters
      have j100 : ∀ (P : Nat → Int) (r : Nat), r ≤ 10000 → ∀ K, JX11_takeClass_100 K (lay z g (rM C m P k1 k2 k3 w (r : Nat) fg fp)) (ad z 104) = if isLt (tx r) = true then K (J 2) (lay z g (rM C m P k1 k2 k3 w (r : Nat) fg (r : Nat))) else if tx r = 48 then K (J 1) (lay z g (rM C m P k1 k2 k3 w (r : Nat) fg (r : Nat))) else K (J 0) (lay z g (rM C m P k1 k2 k3 w (r : Nat) fg fp)) := fun P r hr K => by
        have br := h.b r
        unfold JX11_takeClass_100
        by_cases q1 : isLt (tx r) = true
        · rw [if_pos q1]
          simp (disch := omega) only [J_add, J_sub, J_mul, J_lt, J_le, J_eq, xbr_true, xbr_false, xbr_pos, xbr_neg, Int.toNat_natCast, all_eq, ex_eq, t_0, q_0_0, q_0_1, q_0_2, q_0_3, q_0_4, q_0_5, q_0_6, q_0_7, q_0_8, q_0_9, i_0_10, p_0_10, i_0_11, p_0_11, i_0_12, p_0_12, t_1, q_1_0, t_3, q_3_0, q_3_1, i_3_2, p_3_2, i_3_3, p_3_3, t_80, q_80_0, t_88, q_88_0, t_90, q_90_0, t_92, q_92_0, q_92_1, q_92_2, i_92_3, p_92_3, i_92_4, p_92_4, t_96, q_96_0, i_96_1, p_96_1, i_96_2, p_96_2, i_96_3, p_96_3, t_100, q_100_0, i_100_1, p_100_1, i_100_2, p_100_2, i_100_3, p_100_3, t_104, q_104_1, q_104_2, q_104_3, q_104_4, q_104_5, q_104_6, q_104_8, q_104_9, q_104_11, q_104_12, q_104_18, q_104_21, q_104_22, q_104_23, q_104_24, q_104_26, q_104_27, q_104_28, q_104_30, q_104_31, i_104_0, p_104_0, i_104_7, p_104_7, i_104_10, p_104_10, i_104_13, p_104_13, i_104_14, p_104_14, i_104_15, p_104_15, i_104_16, p_104_16, i_104_17, p_104_17, i_104_19, p_104_19, i_104_20, p_104_20, i_104_25, p_104_25, i_104_29, p_104_29, a_2, w_2, a_81, w_81, a_89, w_89, a_91, w_91, a_93, w_93, a_94, w_94, a_95, w_95, a_105, w_105, a_106, w_106, a_107, w_107, a_108, w_108, a_109, w_109, a_110, w_110, a_111, w_111, a_112, w_112, a_113, w_113, a_114, w_114, a_115, w_115, a_116, w_116, a_117, w_117, a_118, w_118, a_119, w_119, a_120, w_120, a_121, w_121, a_122, w_122, a_123, w_123, a_124, w_124, m_lt h.r rM_15 hr, if_pos q1, rM_15, m_fails, up_14]
        · rw [if_neg q1]
          by_cases q2 : tx r = 48
          · rw [if_pos q2]
            simp (disch := omega) only [J_add, J_sub, J_mul, J_lt, J_le, J_eq, xbr_true, xbr_false, xbr_pos, xbr_neg, Int.toNat_natCast, all_eq, ex_eq, t_0, q_0_0, q_0_1, q_0_2, q_0_3, q_0_4, q_0_5, q_0_6, q_0_7, q_0_8, q_0_9, i_0_10, p_0_10, i_0_11, p_0_11, i_0_12, p_0_12, t_1, q_1_0, t_3, q_3_0, q_3_1, i_3_2, p_3_2, i_3_3, p_3_3, t_80, q_80_0, t_88, q_88_0, t_90, q_90_0, t_92, q_92_0, q_92_1, q_92_2, i_92_3, p_92_3, i_92_4, p_92_4, t_96, q_96_0, i_96_1, p_96_1, i_96_2, p_96_2, i_96_3, p_96_3, t_100, q_100_0, i_100_1, p_100_1, i_100_2, p_100_2, i_100_3, p_100_3, t_104, q_104_1, q_104_2, q_104_3, q_104_4, q_104_5, q_104_6, q_104_8, q_104_9, q_104_11, q_104_12, q_104_18, q_104_21, q_104_22, q_104_23, q_104_24, q_104_26, q_104_27, q_104_28, q_104_30, q_104_31, i_104_0, p_104_0, i_104_7, p_104_7, i_104_10, p_104_10, i_104_13, p_104_13, i_104_14, p_104_14, i_104_15, p_104_15, i_104_16, p_104_16, i_104_17, p_104_17, i_104_19, p_104_19, i_104_20, p_104_20, i_104_25, p_104_25, i_104_29, p_104_29, a_2, w_2, a_81, w_81, a_89, w_89, a_91, w_91, a_93, w_93, a_94, w_94, a_95, w_95, a_105, w_105, a_106, w_106, a_107, w_107, a_108, w_108, a_109, w_109, a_110, w_110, a_111, w_111, a_112, w_112, a_113, w_113, a_114, w_114, a_115, w_115, a_116, w_116, a_117, w_117, a_118, w_118, a_119, w_119, a_120, w_120, a_121, w_121, a_122, w_122, a_123, w_123, a_124, w_124, m_lt h.r rM_15 hr, if_neg q1, m_byteAt h.r rM_15 hr, q2, (show isLt 48 = false from rfl), rM_15, m_fails, up_14, Bool.false_eq_true, if_false]
          · rw [if_neg q2]
            simp (disch := omega) only [J_add, J_sub, J_mul, J_lt, J_le, J_eq, xbr_true, xbr_false, xbr_pos, xbr_neg, Int.toNat_natCast, all_eq, ex_eq, t_0, q_0_0, q_0_1, q_0_2, q_0_3, q_0_4, q_0_5, q_0_6, q_0_7, q_0_8, q_0_9, i_0_10, p_0_10, i_0_11, p_0_11, i_0_12, p_0_12, t_1, q_1_0, t_3, q_3_0, q_3_1, i_3_2, p_3_2, i_3_3, p_3_3, t_80, q_80_0, t_88, q_88_0, t_90, q_90_0, t_92, q_92_0, q_92_1, q_92_2, i_92_3, p_92_3, i_92_4, p_92_4, t_96, q_96_0, i_96_1, p_96_1, i_96_2, p_96_2, i_96_3, p_96_3, t_100, q_100_0, i_100_1, p_100_1, i_100_2, p_100_2, i_100_3, p_100_3, t_104, q_104_1, q_104_2, q_104_3, q_104_4, q_104_5, q_104_6, q_104_8, q_104_9, q_104_11, q_104_12, q_104_18, q_104_21, q_104_22, q_104_23, q_104_24, q_104_26, q_104_27, q_104_28, q_104_30, q_104_31, i_104_0, p_104_0, i_104_7, p_104_7, i_104_10, p_104_10, i_104_13, p_104_13, i_104_14, p_104_14, i_104_15, p_104_15, i_104_16, p_104_16, i_104_17, p_104_17, i_104_19, p_104_19, i_104_20, p_104_20, i_104_25, p_104_25, i_104_29, p_104_29, a_2, w_2, a_81, w_81, a_89, w_89, a_91, w_91, a_93, w_93, a_94, w_94, a_95, w_95, a_105, w_105, a_106, w_106, a_107, w_107, a_108, w_108, a_109, w_109, a_110, w_110, a_111, w_111, a_112, w_112, a_113, w_113, a_114, w_114, a_115, w_115, a_116, w_116, a_117, w_117, a_118, w_118, a_119, w_119, a_120, w_120, a_121, w_121, a_122, w_122, a_123, w_123, a_124, w_124, m_lt h.r rM_15 hr, if_neg q1, m_byteAt h.r rM_15 hr]
      have main : ∀ K, PX11_takeClass (ad z 104) (J x) (lay z g (rM C m P k1 k2 k3 w (p : Nat) fg fp)) K = JX11_takeClass_100 K (lay z g (rM C m (PA tx p P) k1 k2 k3 w (q1 tx p : Nat) fg fp)) (ad z 104) := fun K => by
        unfold PX11_takeClass PA q1
        by_cases c2 : isLt (tx (p + 1)) = true
        · rw [if_pos c2, if_pos c2, hx']
          simp (disch := omega) only [J_add, J_sub, J_mul, J_lt, J_le, J_eq, xbr_true, xbr_false, xbr_pos, xbr_neg, Int.toNat_natCast, all_eq, ex_eq, t_0, q_0_0, q_0_1, q_0_2, q_0_3, q_0_4, q_0_5, q_0_6, q_0_7, q_0_8, q_0_9, i_0_10, p_0_10, i_0_11, p_0_11, i_0_12, p_0_12, t_1, q_1_0, t_3, q_3_0, q_3_1, i_3_2, p_3_2, i_3_3, p_3_3, t_80, q_80_0, t_88, q_88_0, t_90, q_90_0, t_92, q_92_0, q_92_1, q_92_2, i_92_3, p_92_3, i_92_4, p_92_4, t_96, q_96_0, i_96_1, p_96_1, i_96_2, p_96_2, i_96_3, p_96_3, t_100, q_100_0, i_100_1, p_100_1, i_100_2, p_100_2, i_100_3, p_100_3, t_104, q_104_1, q_104_2, q_104_3, q_104_4, q_104_5, q_104_6, q_104_8, q_104_9, q_104_11, q_104_12, q_104_18, q_104_21, q_104_22, q_104_23, q_104_24, q_104_26, q_104_27, q_104_28, q_104_30, q_104_31, i_104_0, p_104_0, i_104_7, p_104_7, i_104_10, p_104_10, i_104_13, p_104_13, i_104_14, p_104_14, i_104_15, p_104_15, i_104_16, p_104_16, i_104_17, p_104_17, i_104_19, p_104_19, i_104_20, p_104_20, i_104_25, p_104_25, i_104_29, p_104_29, a_2, w_2, a_81, w_81, a_89, w_89, a_91, w_91, a_93, w_93, a_94, w_94, a_95, w_95, a_105, w_105, a_106, w_106, a_107, w_107, a_108, w_108, a_109, w_109, a_110, w_110, a_111, w_111, a_112, w_112, a_113, w_113, a_114, w_114, a_115, w_115, a_116, w_116, a_117, w_117, a_118, w_118, a_119, w_119, a_120, w_120, a_121, w_121, a_122, w_122, a_123, w_123, a_124, w_124, m_lt h.r rM_15 (show p ≤ 10000 by omega), if_pos c0, r16, m_byteAt h.r rM_15 (show p ≤ 10000 by omega), t0, up_P (show 0 < 16 by omega), t1, up_P (show 1 < 16 by omega), rM_15, up_15, e1, m_lt h.r rM_15 (show p + 1 ≤ 10000 by omega), if_pos c2, m_byteAt h.r rM_15 (show p + 1 ≤ 10000 by omega), vup_vup, e2]
        · rw [if_neg c2, if_neg c2, hx']
          simp (disch := omega) only [J_add, J_sub, J_mul, J_lt, J_le, J_eq, xbr_true, xbr_false, xbr_pos, xbr_neg, Int.toNat_natCast, all_eq, ex_eq, t_0, q_0_0, q_0_1, q_0_2, q_0_3, q_0_4, q_0_5, q_0_6, q_0_7, q_0_8, q_0_9, i_0_10, p_0_10, i_0_11, p_0_11, i_0_12, p_0_12, t_1, q_1_0, t_3, q_3_0, q_3_1, i_3_2, p_3_2, i_3_3, p_3_3, t_80, q_80_0, t_88, q_88_0, t_90, q_90_0, t_92, q_92_0, q_92_1, q_92_2, i_92_3, p_92_3, i_92_4, p_92_4, t_96, q_96_0, i_96_1, p_96_1, i_96_2, p_96_2, i_96_3, p_96_3, t_100, q_100_0, i_100_1, p_100_1, i_100_2, p_100_2, i_100_3, p_100_3, t_104, q_104_1, q_104_2, q_104_3, q_104_4, q_104_5, q_104_6, q_104_8, q_104_9, q_104_11, q_104_12, q_104_18, q_104_21, q_104_22, q_104_23, q_104_24, q_104_26, q_104_27, q_104_28, q_104_30, q_104_31, i_104_0, p_104_0, i_104_7, p_104_7, i_104_10, p_104_10, i_104_13, p_104_13, i_104_14, p_104_14, i_104_15, p_104_15, i_104_16, p_104_16, i_104_17, p_104_17, i_104_19, p_104_19, i_104_20, p_104_20, i_104_25, p_104_25, i_104_29, p_104_29, a_2, w_2, a_81, w_81, a_89, w_89, a_91, w_91, a_93, w_93, a_94, w_94, a_95, w_95, a_105, w_105, a_106, w_106, a_107, w_107, a_108, w_108, a_109, w_109, a_110, w_110, a_111, w_111, a_112, w_112, a_113, w_113, a_114, w_114, a_115, w_115, a_116, w_116, a_117, w_117, a_118, w_118, a_119, w_119, a_120, w_120, a_121, w_121, a_122, w_122, a_123, w_123, a_124, w_124, m_lt h.r rM_15 (show p ≤ 10000 by omega), if_pos c0, r16, m_byteAt h.r rM_15 (show p ≤ 10000 by omega), t0, up_P (show 0 < 16 by omega), t1, up_P (show 1 < 16 by omega), rM_15, up_15, e1, m_lt h.r rM_15 (show p + 1 ≤ 10000 by omega), if_neg c2]
      have hPA : m < 24 → POk (PA tx p P) := fun q => ((hP q).v (by omega)).v (by omega)
      have qle : q1 tx p ≤ 10000 := by unfold q1; split <;> omega
      by_cases c2 : (isLt (tx (p + 1)) && isLt (tx (p + 2))) = true
      · have c2' : isLt (tx (p + 1)) = true ∧ isLt (tx (p + 2)) = true := by simpa using c2
        have eq : q1 tx p = p + 2 := by unfold q1; rw [if_pos c2'.1]
        have e : clA2 tx (decide (m = 24)) p = (2, p + 2) := by
          have e' : clA tx (decide (m = 24)) p = (2, p + 2) := by unfold clA; rw [if_neg (by simp [c0]), if_neg (by simpa using c1), if_pos c2]
          unfold clA2; rw [e', if_pos (by simp)]
        rw [e]
        refine ⟨fun _ => FlM.mk (k1 := k1) (k2 := k2) (k3 := k3) (w := w) (at0 := ((p + 2 : Nat) : Int)) (fg := fg) (fp := ((p + 2 : Nat) : Int)) hPA rfl fun K => ?_, fun q => by simp at q⟩
        show PX11_takeClass _ _ _ K = _
        rw [main, j100 _ _ qle, eq, if_pos c2'.2]
        rfl
      · have e' : clA tx (decide (m = 24)) p = (0, 0) := by unfold clA; rw [if_neg (by simp [c0]), if_neg (by simpa using c1), if_neg c2]
        have nl : ¬ isLt (tx (q1 tx p)) = true := by
          unfold q1
          by_cases c3 : isLt (tx (p + 1)) = true
          · rw [if_pos c3]
            intro q4
            exact c2 (by simp [c3, q4])
          · rw [if_neg c3]; exact c3
        by_cases c4 : tx (q1 tx p) = 48
        · have e : clA2 tx (decide (m = 24)) p = (1, q1 tx p) := by unfold clA2; rw [e', if_neg (by simp), if_pos c4]
          rw [e]
          refine ⟨fun _ => FlM.mk (k1 := k1) (k2 := k2) (k3 := k3) (w := w) (at0 := (q1 tx p : Nat)) (fg := fg) (fp := (q1 tx p : Nat)) hPA rfl fun K => ?_, fun q => by simp at q⟩
          show PX11_takeClass _ _ _ K = _
          rw [main, j100 _ _ qle, if_neg nl, if_pos c4]
          rfl
        · have e : clA2 tx (decide (m = 24)) p = (0, 0) := by unfold clA2; rw [e', if_neg (by simp), if_neg c4]
          rw [e]
          refine ⟨fun q => absurd rfl q, fun _ => ⟨⟨hm, c0⟩, fun K => ?_⟩⟩
          rw [main, j100 _ _ qle, if_neg nl, if_neg c4]
  · have e : clA2 tx (decide (m = 24)) p = (1, p) := by
      have e' : clA tx (decide (m = 24)) p = (1, p) := by unfold clA; rw [if_pos (by simpa using c0)]
      unfold clA2; rw [e', if_pos (by simp)]
    rw [e]
    refine ⟨fun _ => FlM.mk (k1 := k1) (k2 := k2) (k3 := k3) (w := w) (at0 := (p : Nat)) (fg := fg) (fp := (p : Nat)) hP rfl fun K => ?_, fun q => by simp at q⟩
    unfold PX11_takeClass
    simp (disch := omega) only [J_add, J_sub, J_mul, J_lt, J_le, J_eq, xbr_true, xbr_false, xbr_pos, xbr_neg, Int.toNat_natCast, all_eq, ex_eq, t_0, q_0_0, q_0_1, q_0_2, q_0_3, q_0_4, q_0_5, q_0_6, q_0_7, q_0_8, q_0_9, i_0_10, p_0_10, i_0_11, p_0_11, i_0_12, p_0_12, t_1, q_1_0, t_3, q_3_0, q_3_1, i_3_2, p_3_2, i_3_3, p_3_3, t_80, q_80_0, t_88, q_88_0, t_90, q_90_0, t_92, q_92_0, q_92_1, q_92_2, i_92_3, p_92_3, i_92_4, p_92_4, t_96, q_96_0, i_96_1, p_96_1, i_96_2, p_96_2, i_96_3, p_96_3, t_100, q_100_0, i_100_1, p_100_1, i_100_2, p_100_2, i_100_3, p_100_3, t_104, q_104_1, q_104_2, q_104_3, q_104_4, q_104_5, q_104_6, q_104_8, q_104_9, q_104_11, q_104_12, q_104_18, q_104_21, q_104_22, q_104_23, q_104_24, q_104_26, q_104_27, q_104_28, q_104_30, q_104_31, i_104_0, p_104_0, i_104_7, p_104_7, i_104_10, p_104_10, i_104_13, p_104_13, i_104_14, p_104_14, i_104_15, p_104_15, i_104_16, p_104_16, i_104_17, p_104_17, i_104_19, p_104_19, i_104_20, p_104_20, i_104_25, p_104_25, i_104_29, p_104_29, a_2, w_2, a_81, w_81, a_89, w_89, a_91, w_91, a_93, w_93, a_94, w_94, a_95, w_95, a_105, w_105, a_106, w_106, a_107, w_107, a_108, w_108, a_109, w_109, a_110, w_110, a_111, w_111, a_112, w_112, a_113, w_113, a_114, w_114, a_115, w_115, a_116, w_116, a_117, w_117, a_118, w_118, a_119, w_119, a_120, w_120, a_121, w_121, a_122, w_122, a_123, w_123, a_124, w_124, m_lt h.r rM_15 (show p ≤ 10000 by omega), if_neg c0, rM_15, m_fails, up_14]
    rfl
theorem m_takeCutter {K : Int32 → Mem → Prop} (h : TxM C n tx) (h16 : C 104 16 = m) (hm : m < 24) (hp : p ≤ n) : PX11_takeCutter (ad z 104) (J (16 * (m : Int))) (lay z g (rM C m P k1 k2 k3 w (p : Nat) fg fp)) K = if isLt (tx p) = true then K (J (fgF tx (p + 1) : Nat)) (lay z g (rM C m (pdg (vup P 10 (tx p - 97)) tx 11 (p + 1) (fgN tx (p + 1))) k1 k2 (fgN tx (p + 1) : Nat) w ((p + 1 + fgN tx (p + 1) : Nat) : Int) (fgN tx (p + 1) : Nat) (if fgF tx (p + 1) = 0 then fp else ((p + 1 + fgN tx (p + 1) : Nat) : Int)))) else K (J 1) (lay z g (rM C m P k1 k2 k3 w (p : Nat) fg (p : Nat))) := by
  have hn := h.2.1
  have b0 := h.b p
  have r16 : ∀ P k1 k2 k3 w at0 fg fp, rM C m P k1 k2 k3 w at0 fg fp 104 16 = m := fun P k1 k2 k3 w at0 fg fp => by rw [rM_104 (by omega)]; exact h16
  have t10 : (16 * (m : Int) + 10).toNat = 16 * m + 10 := by omega
  have e1 : (p : Int) + 1 = ((p + 1 : Nat) : Int) := by omega
  by_cases c0 : isLt (tx p) = true
  · have lp := b0.2.2 (by have := isLt_t c0; omega)
    have tf := fun P fg fp K => m_takeFigures (z := z) (g := g) (K := K) (P := P) (k1 := k1) (k2 := k2) (k3 := k3) (w := w) (fg := fg) (fp := fp) h hm (show p + 1 ≤ n by omega) (f := 11) (by omega) (F := 11) rfl
    rw [if_pos c0]
    unfold PX11_takeCutter
    simp (disch := omega) only [J_add, J_sub, J_mul, J_lt, J_le, J_eq, xbr_true, xbr_false, xbr_pos, xbr_neg, Int.toNat_natCast, all_eq, ex_eq, t_0, q_0_0, q_0_1, q_0_2, q_0_3, q_0_4, q_0_5, q_0_6, q_0_7, q_0_8, q_0_9, i_0_10, p_0_10, i_0_11, p_0_11, i_0_12, p_0_12, t_1, q_1_0, t_3, q_3_0, q_3_1, i_3_2, p_3_2, i_3_3, p_3_3, t_80, q_80_0, t_88, q_88_0, t_90, q_90_0, t_92, q_92_0, q_92_1, q_92_2, i_92_3, p_92_3, i_92_4, p_92_4, t_96, q_96_0, i_96_1, p_96_1, i_96_2, p_96_2, i_96_3, p_96_3, t_100, q_100_0, i_100_1, p_100_1, i_100_2, p_100_2, i_100_3, p_100_3, t_104, q_104_1, q_104_2, q_104_3, q_104_4, q_104_5, q_104_6, q_104_8, q_104_9, q_104_11, q_104_12, q_104_18, q_104_21, q_104_22, q_104_23, q_104_24, q_104_26, q_104_27, q_104_28, q_104_30, q_104_31, i_104_0, p_104_0, i_104_7, p_104_7, i_104_10, p_104_10, i_104_13, p_104_13, i_104_14, p_104_14, i_104_15, p_104_15, i_104_16, p_104_16, i_104_17, p_104_17, i_104_19, p_104_19, i_104_20, p_104_20, i_104_25, p_104_25, i_104_29, p_104_29, a_2, w_2, a_81, w_81, a_89, w_89, a_91, w_91, a_93, w_93, a_94, w_94, a_95, w_95, a_105, w_105, a_106, w_106, a_107, w_107, a_108, w_108, a_109, w_109, a_110, w_110, a_111, w_111, a_112, w_112, a_113, w_113, a_114, w_114, a_115, w_115, a_116, w_116, a_117, w_117, a_118, w_118, a_119, w_119, a_120, w_120, a_121, w_121, a_122, w_122, a_123, w_123, a_124, w_124, m_lt h.r rM_15 (show p ≤ 10000 by omega), if_pos c0, m_byteAt h.r rM_15 (show p ≤ 10000 by omega), t10, up_P (show 10 < 16 by omega), rM_15, up_15, e1, tf, r16, rM_17, up_k3]
  · rw [if_neg c0]
    unfold PX11_takeCutter
    simp (disch := omega) only [J_add, J_sub, J_mul, J_lt, J_le, J_eq, xbr_true, xbr_false, xbr_pos, xbr_neg, Int.toNat_natCast, all_eq, ex_eq, t_0, q_0_0, q_0_1, q_0_2, q_0_3, q_0_4, q_0_5, q_0_6, q_0_7, q_0_8, q_0_9, i_0_10, p_0_10, i_0_11, p_0_11, i_0_12, p_0_12, t_1, q_1_0, t_3, q_3_0, q_3_1, i_3_2, p_3_2, i_3_3, p_3_3, t_80, q_80_0, t_88, q_88_0, t_90, q_90_0, t_92, q_92_0, q_92_1, q_92_2, i_92_3, p_92_3, i_92_4, p_92_4, t_96, q_96_0, i_96_1, p_96_1, i_96_2, p_96_2, i_96_3, p_96_3, t_100, q_100_0, i_100_1, p_100_1, i_100_2, p_100_2, i_100_3, p_100_3, t_104, q_104_1, q_104_2, q_104_3, q_104_4, q_104_5, q_104_6, q_104_8, q_104_9, q_104_11, q_104_12, q_104_18, q_104_21, q_104_22, q_104_23, q_104_24, q_104_26, q_104_27, q_104_28, q_104_30, q_104_31, i_104_0, p_104_0, i_104_7, p_104_7, i_104_10, p_104_10, i_104_13, p_104_13, i_104_14, p_104_14, i_104_15, p_104_15, i_104_16, p_104_16, i_104_17, p_104_17, i_104_19, p_104_19, i_104_20, p_104_20, i_104_25, p_104_25, i_104_29, p_104_29, a_2, w_2, a_81, w_81, a_89, w_89, a_91, w_91, a_93, w_93, a_94, w_94, a_95, w_95, a_105, w_105, a_106, w_106, a_107, w_107, a_108, w_108, a_109, w_109, a_110, w_110, a_111, w_111, a_112, w_112, a_113, w_113, a_114, w_114, a_115, w_115, a_116, w_116, a_117, w_117, a_118, w_118, a_119, w_119, a_120, w_120, a_121, w_121, a_122, w_122, a_123, w_123, a_124, w_124, m_lt h.r rM_15 (show p ≤ 10000 by omega), if_neg c0, rM_15, m_fails, up_14]
theorem m_takePoints (h : TxM C n tx) (h16 : C 104 16 = m) (hm : m < 24) (hp : p ≤ n) (hP : POk P) :
    ((clP tx p).1 ≠ 0 → (clP tx p).2 ≤ n ∧ ∃ (P' : Nat → Int) (k2' k3' fg' : Int), POk P' ∧ ∀ K, PX11_takePoints (ad z 104) (J (16 * (m : Int))) (lay z g (rM C m P k1 k2 k3 w (p : Nat) fg fp)) K = K (J ((clP tx p).1 : Nat)) (lay z g (rM C m P' k1 k2' k3' w ((clP tx p).2 : Nat) fg' ((clP tx p).2 : Nat)))) ∧
    ((clP tx p).1 = 0 → q4 tx (q3 tx p) ≤ n ∧ ∃ fg' : Int, ∀ K, PX11_takePoints (ad z 104) (J (16 * (m : Int))) (lay z g (rM C m P k1 k2 k3 w (p : Nat) fg fp)) K = K (J 0) (lay z g (rM C m (PC tx (q3 tx p) (PD tx p P)) k1 (kD tx p) (kC tx (q3 tx p)) w (q4 tx (q3 tx p) : Nat) fg' fp))) := by
  obtain ⟨D0, hD0⟩ := h.c
  have hn := h.2.1
  have b0 := h.b p
  have b1 := h.b (p + 1)
  have r16 : ∀ P k1 k2 k3 w at0 fg fp, rM C m P k1 k2 k3 w at0 fg fp 104 16 = m := fun P k1 k2 k3 w at0 fg fp => by rw [rM_104 (by omega)]; exact h16
  have t10 : (16 * (m : Int) + 10).toNat = 16 * m + 10 := by omega
  have e1 : (p : Int) + 1 = ((p + 1 : Nat) : Int) := by omega
  have hP10 : POk (vup P 10 (-1)) := hP.v (by omega)
  by_cases c0 : tx p = 46
  · have lp := b0.2.2 (by omega)
    by_cases c1 : isFg (tx (p + 1)) = true
    · have hD : hasD tx p = true := by unfold hasD; simp [c0, c1]
      have tf := fun P k2 k3 fg fp K => m_takeFigures (z := z) (g := g) (K := K) (P := P) (k1 := k1) (k2 := k2) (k3 := k3) (w := w) (fg := fg) (fp := fp) h hm (show p + 1 ≤ n by omega) (f := 6) (by omega) (F := 6) rfl
      have eq3 : q3 tx p = p + 1 + fgN tx (p + 1) := by unfold q3; rw [if_pos hD]
      have l3 := fgN_n hD0 (p := p + 1) (by omega)
      have b3 := h.b (q3 tx p)
      have ePD : PD tx p P = pdg (vup P 10 (-1)) tx 6 (p + 1) (fgN tx (p + 1)) := by unfold PD; rw [if_pos hD]
      have ekD : kD tx p = (fgN tx (p + 1) : Nat) := by unfold kD; rw [if_pos hD]
      have hPD : POk (PD tx p P) := by rw [ePD]; exact hP10.d
      by_cases c2 : fgF tx (p + 1) = 0
      · have eP : clP tx p = clC tx (q3 tx p) := by
          have : clD tx p = (0, 0) := by unfold clD; rw [if_neg (fun q => q.2 c2)]
          unfold clP; rw [this, if_neg (by simp)]
        rw [eP]
        have pre : ∀ K, PX11_takePoints (ad z 104) (J (16 * (m : Int))) (lay z g (rM C m P k1 k2 k3 w (p : Nat) fg fp)) K = if tx (q3 tx p) = 46 then PX11_takeCutter (ad z 104) (J (16 * (m : Int))) (lay z g (rM C m (PD tx p P) k1 (kD tx p) 0 w ((q3 tx p + 1 : Nat) : Int) (fgN tx (p + 1) : Nat) fp)) (fun r31 M32 => K r31 M32) else K (J 0) (lay z g (rM C m (PD tx p P) k1 (kD tx p) 0 w (q3 tx p : Nat) (fgN tx (p + 1) : Nat) fp)) := fun K => by
          rw [ePD, ekD, eq3]
          rw [eq3] at b3
          have e3 : ((p + 1 + fgN tx (p + 1) : Nat) : Int) + 1 = ((p + 1 + fgN tx (p + 1) + 1 : Nat) : Int) := by omega
          unfold PX11_takePoints JX11_takePoints_97
          by_cases c3 : tx (p + 1 + fgN tx (p + 1)) = 46
          · rw [if_pos c3]
            simp (disch := omega) only [J_add, J_sub, J_mul, J_lt, J_le, J_eq, xbr_true, xbr_false, xbr_pos, xbr_neg, Int.toNat_natCast, all_eq, ex_eq, t_0, q_0_0, q_0_1, q_0_2, q_0_3, q_0_4, q_0_5, q_0_6, q_0_7, q_0_8, q_0_9, i_0_10, p_0_10, i_0_11, p_0_11, i_0_12, p_0_12, t_1, q_1_0, t_3, q_3_0, q_3_1, i_3_2, p_3_2, i_3_3, p_3_3, t_80, q_80_0, t_88, q_88_0, t_90, q_90_0, t_92, q_92_0, q_92_1, q_92_2, i_92_3, p_92_3, i_92_4, p_92_4, t_96, q_96_0, i_96_1, p_96_1, i_96_2, p_96_2, i_96_3, p_96_3, t_100, q_100_0, i_100_1, p_100_1, i_100_2, p_100_2, i_100_3, p_100_3, t_104, q_104_1, q_104_2, q_104_3, q_104_4, q_104_5, q_104_6, q_104_8, q_104_9, q_104_11, q_104_12, q_104_18, q_104_21, q_104_22, q_104_23, q_104_24, q_104_26, q_104_27, q_104_28, q_104_30, q_104_31, i_104_0, p_104_0, i_104_7, p_104_7, i_104_10, p_104_10, i_104_13, p_104_13, i_104_14, p_104_14, i_104_15, p_104_15, i_104_16, p_104_16, i_104_17, p_104_17, i_104_19, p_104_19, i_104_20, p_104_20, i_104_25, p_104_25, i_104_29, p_104_29, a_2, w_2, a_81, w_81, a_89, w_89, a_91, w_91, a_93, w_93, a_94, w_94, a_95, w_95, a_105, w_105, a_106, w_106, a_107, w_107, a_108, w_108, a_109, w_109, a_110, w_110, a_111, w_111, a_112, w_112, a_113, w_113, a_114, w_114, a_115, w_115, a_116, w_116, a_117, w_117, a_118, w_118, a_119, w_119, a_120, w_120, a_121, w_121, a_122, w_122, a_123, w_123, a_124, w_124, r16, up_k2, up_k3, t10, up_P (show 10 < 16 by omega), m_byteAt h.r rM_15 (show p ≤ 10000 by omega), c0, rM_15, up_15, e1, m_fg h.r rM_15 (show p + 1 ≤ 10000 by omega), if_pos c1, tf, rM_17, c2, m_byteAt h.r rM_15 (show p + 1 + fgN tx (p + 1) ≤ 10000 by omega), c3]
            unfold JX11_takePoints_98 JX11_takePoints_113
            simp (disch := omega) only [J_add, J_sub, J_mul, J_lt, J_le, J_eq, xbr_true, xbr_false, xbr_pos, xbr_neg, Int.toNat_natCast, all_eq, ex_eq, t_0, q_0_0, q_0_1, q_0_2, q_0_3, q_0_4, q_0_5, q_0_6, q_0_7, q_0_8, q_0_9, i_0_10, p_0_10, i_0_11, p_0_11, i_0_12, p_0_12, t_1, q_1_0, t_3, q_3_0, q_3_1, i_3_2, p_3_2, i_3_3, p_3_3, t_80, q_80_0, t_88, q_88_0, t_90, q_90_0, t_92, q_92_0, q_92_1, q_92_2, i_92_3, p_92_3, i_92_4, p_92_4, t_96, q_96_0, i_96_1, p_96_1, i_96_2, p_96_2, i_96_3, p_96_3, t_100, q_100_0, i_100_1, p_100_1, i_100_2, p_100_2, i_100_3, p_100_3, t_104, q_104_1, q_104_2, q_104_3, q_104_4, q_104_5, q_104_6, q_104_8, q_104_9, q_104_11, q_104_12, q_104_18, q_104_21, q_104_22, q_104_23, q_104_24, q_104_26, q_104_27, q_104_28, q_104_30, q_104_31, i_104_0, p_104_0, i_104_7, p_104_7, i_104_10, p_104_10, i_104_13, p_104_13, i_104_14, p_104_14, i_104_15, p_104_15, i_104_16, p_104_16, i_104_17, p_104_17, i_104_19, p_104_19, i_104_20, p_104_20, i_104_25, p_104_25, i_104_29, p_104_29, a_2, w_2, a_81, w_81, a_89, w_89, a_91, w_91, a_93, w_93, a_94, w_94, a_95, w_95, a_105, w_105, a_106, w_106, a_107, w_107, a_108, w_108, a_109, w_109, a_110, w_110, a_111, w_111, a_112, w_112, a_113, w_113, a_114, w_114, a_115, w_115, a_116, w_116, a_117, w_117, a_118, w_118, a_119, w_119, a_120, w_120, a_121, w_121, a_122, w_122, a_123, w_123, a_124, w_124, rM_15, up_15, e3, if_true]
          · rw [if_neg c3]
            simp (disch := omega) only [J_add, J_sub, J_mul, J_lt, J_le, J_eq, xbr_true, xbr_false, xbr_pos, xbr_neg, Int.toNat_natCast, all_eq, ex_eq, t_0, q_0_0, q_0_1, q_0_2, q_0_3, q_0_4, q_0_5, q_0_6, q_0_7, q_0_8, q_0_9, i_0_10, p_0_10, i_0_11, p_0_11, i_0_12, p_0_12, t_1, q_1_0, t_3, q_3_0, q_3_1, i_3_2, p_3_2, i_3_3, p_3_3, t_80, q_80_0, t_88, q_88_0, t_90, q_90_0, t_92, q_92_0, q_92_1, q_92_2, i_92_3, p_92_3, i_92_4, p_92_4, t_96, q_96_0, i_96_1, p_96_1, i_96_2, p_96_2, i_96_3, p_96_3, t_100, q_100_0, i_100_1, p_100_1, i_100_2, p_100_2, i_100_3, p_100_3, t_104, q_104_1, q_104_2, q_104_3, q_104_4, q_104_5, q_104_6, q_104_8, q_104_9, q_104_11, q_104_12, q_104_18, q_104_21, q_104_22, q_104_23, q_104_24, q_104_26, q_104_27, q_104_28, q_104_30, q_104_31, i_104_0, p_104_0, i_104_7, p_104_7, i_104_10, p_104_10, i_104_13, p_104_13, i_104_14, p_104_14, i_104_15, p_104_15, i_104_16, p_104_16, i_104_17, p_104_17, i_104_19, p_104_19, i_104_20, p_104_20, i_104_25, p_104_25, i_104_29, p_104_29, a_2, w_2, a_81, w_81, a_89, w_89, a_91, w_91, a_93, w_93, a_94, w_94, a_95, w_95, a_105, w_105, a_106, w_106, a_107, w_107, a_108, w_108, a_109, w_109, a_110, w_110, a_111, w_111, a_112, w_112, a_113, w_113, a_114, w_114, a_115, w_115, a_116, w_116, a_117, w_117, a_118, w_118, a_119, w_119, a_120, w_120, a_121, w_121, a_122, w_122, a_123, w_123, a_124, w_124, r16, up_k2, up_k3, t10, up_P (show 10 < 16 by omega), m_byteAt h.r rM_15 (show p ≤ 10000 by omega), c0, rM_15, up_15, e1, m_fg h.r rM_15 (show p + 1 ≤ 10000 by omega), if_pos c1, tf, rM_17, c2, m_byteAt h.r rM_15 (show p + 1 + fgN tx (p + 1) ≤ 10000 by omega)]
            unfold JX11_takePoints_98 JX11_takePoints_113
            simp (disch := omega) only [J_add, J_sub, J_mul, J_lt, J_le, J_eq, xbr_true, xbr_false, xbr_pos, xbr_neg, Int.toNat_natCast, all_eq, ex_eq, t_0, q_0_0, q_0_1, q_0_2, q_0_3, q_0_4, q_0_5, q_0_6, q_0_7, q_0_8, q_0_9, i_0_10, p_0_10, i_0_11, p_0_11, i_0_12, p_0_12, t_1, q_1_0, t_3, q_3_0, q_3_1, i_3_2, p_3_2, i_3_3, p_3_3, t_80, q_80_0, t_88, q_88_0, t_90, q_90_0, t_92, q_92_0, q_92_1, q_92_2, i_92_3, p_92_3, i_92_4, p_92_4, t_96, q_96_0, i_96_1, p_96_1, i_96_2, p_96_2, i_96_3, p_96_3, t_100, q_100_0, i_100_1, p_100_1, i_100_2, p_100_2, i_100_3, p_100_3, t_104, q_104_1, q_104_2, q_104_3, q_104_4, q_104_5, q_104_6, q_104_8, q_104_9, q_104_11, q_104_12, q_104_18, q_104_21, q_104_22, q_104_23, q_104_24, q_104_26, q_104_27, q_104_28, q_104_30, q_104_31, i_104_0, p_104_0, i_104_7, p_104_7, i_104_10, p_104_10, i_104_13, p_104_13, i_104_14, p_104_14, i_104_15, p_104_15, i_104_16, p_104_16, i_104_17, p_104_17, i_104_19, p_104_19, i_104_20, p_104_20, i_104_25, p_104_25, i_104_29, p_104_29, a_2, w_2, a_81, w_81, a_89, w_89, a_91, w_91, a_93, w_93, a_94, w_94, a_95, w_95, a_105, w_105, a_106, w_106, a_107, w_107, a_108, w_108, a_109, w_109, a_110, w_110, a_111, w_111, a_112, w_112, a_113, w_113, a_114, w_114, a_115, w_115, a_116, w_116, a_117, w_117, a_118, w_118, a_119, w_119, a_120, w_120, a_121, w_121, a_122, w_122, a_123, w_123, a_124, w_124, rM_15, up_15, Int.add_zero, if_true]
            rfl
        by_cases c3 : tx (q3 tx p) = 46
        · have l4 := b3.2.2 (by omega)
          have tc := fun P k2 k3 fg fp K => m_takeCutter (z := z) (g := g) (K := K) (P := P) (k1 := k1) (k2 := k2) (k3 := k3) (w := w) (fg := fg) (fp := fp) h h16 hm (show q3 tx p + 1 ≤ n by omega)
          have b4 := h.b (q3 tx p + 1)
          by_cases c4 : isLt (tx (q3 tx p + 1)) = true
          · have l5 := b4.2.2 (by have := isLt_t c4; omega)
            have l6 := fgN_n hD0 (p := q3 tx p + 2) (by omega)
            by_cases c5 : fgF tx (q3 tx p + 2) = 0
            · have e : clC tx (q3 tx p) = (0, 0) := by unfold clC; rw [if_pos c3, if_neg (by simp [c4]), if_neg (by omega)]
              rw [e]
              have eq4 : q4 tx (q3 tx p) = q3 tx p + 2 + fgN tx (q3 tx p + 2) := by unfold q4; rw [if_pos c3]
              have ePC : PC tx (q3 tx p) (PD tx p P) = pdg (vup (PD tx p P) 10 (tx (q3 tx p + 1) - 97)) tx 11 (q3 tx p + 2) (fgN tx (q3 tx p + 2)) := by unfold PC; rw [if_pos c3]
              have ekC : kC tx (q3 tx p) = (fgN tx (q3 tx p + 2) : Nat) := by unfold kC; rw [if_pos c3]
              refine ⟨fun q => absurd rfl q, fun _ => ⟨by rw [eq4]; exact l6, (fgN tx (q3 tx p + 2) : Nat), fun K => ?_⟩⟩
              rw [pre, if_pos c3, tc, if_pos c4, ePC, ekC, eq4]
              show K (J (fgF tx (q3 tx p + 2) : Nat)) (lay z g (rM C m _ _ _ _ _ _ _ (if fgF tx (q3 tx p + 2) = 0 then _ else _))) = _
              rw [c5, if_pos rfl]
              rfl
            · have e : clC tx (q3 tx p) = (fgF tx (q3 tx p + 2), q3 tx p + 2 + fgN tx (q3 tx p + 2)) := by unfold clC; rw [if_pos c3, if_neg (by simp [c4]), if_pos c5]
              rw [e]
              refine ⟨fun _ => ⟨l6, _, kD tx p, (fgN tx (q3 tx p + 2) : Nat), (fgN tx (q3 tx p + 2) : Nat), ((hPD.v (i := 10) (x := tx (q3 tx p + 1) - 97) (by omega)).d (f := 11) (tx := tx) (p := q3 tx p + 2)), fun K => ?_⟩, fun q => absurd q c5⟩
              rw [pre, if_pos c3, tc, if_pos c4]
              show K (J (fgF tx (q3 tx p + 2) : Nat)) (lay z g (rM C m _ _ _ _ _ _ _ (if fgF tx (q3 tx p + 2) = 0 then _ else _))) = _
              rw [if_neg c5]
          · have e : clC tx (q3 tx p) = (1, q3 tx p + 1) := by unfold clC; rw [if_pos c3, if_pos (by simpa using c4)]
            rw [e]
            refine ⟨fun _ => ⟨by show q3 tx p + 1 ≤ n; omega, _, kD tx p, 0, (fgN tx (p + 1) : Nat), hPD, fun K => ?_⟩, fun q => by simp at q⟩
            rw [pre, if_pos c3, tc, if_neg c4]
            rfl
        · have e : clC tx (q3 tx p) = (0, 0) := by unfold clC; rw [if_neg c3]
          rw [e]
          have eq4 : q4 tx (q3 tx p) = q3 tx p := by unfold q4; rw [if_neg c3]
          have ePC : PC tx (q3 tx p) (PD tx p P) = PD tx p P := by unfold PC; rw [if_neg c3]
          have ekC : kC tx (q3 tx p) = 0 := by unfold kC; rw [if_neg c3]
          refine ⟨fun q => absurd rfl q, fun _ => ⟨by rw [eq4, eq3]; exact l3, (fgN tx (p + 1) : Nat), fun K => ?_⟩⟩
          rw [pre, if_neg c3, ePC, ekC, eq4]
      · have eP : clP tx p = (fgF tx (p + 1), p + 1 + fgN tx (p + 1)) := by
          have : clD tx p = (fgF tx (p + 1), p + 1 + fgN tx (p + 1)) := by unfold clD; rw [if_pos ⟨hD, c2⟩]
          unfold clP; rw [this, if_pos c2]
        rw [eP]
        have f2 := fgF_b (tx := tx) (p + 1)
        refine ⟨fun _ => ⟨l3, _, (fgN tx (p + 1) : Nat), 0, (fgN tx (p + 1) : Nat), hP10.d (f := 6) (tx := tx) (p := p + 1), fun K => ?_⟩, fun q => absurd q c2⟩
        unfold PX11_takePoints JX11_takePoints_97 JX11_takePoints_98 JX11_takePoints_113
        simp (disch := omega) only [J_add, J_sub, J_mul, J_lt, J_le, J_eq, xbr_true, xbr_false, xbr_pos, xbr_neg, Int.toNat_natCast, all_eq, ex_eq, t_0, q_0_0, q_0_1, q_0_2, q_0_3, q_0_4, q_0_5, q_0_6, q_0_7, q_0_8, q_0_9, i_0_10, p_0_10, i_0_11, p_0_11, i_0_12, p_0_12, t_1, q_1_0, t_3, q_3_0, q_3_1, i_3_2, p_3_2, i_3_3, p_3_3, t_80, q_80_0, t_88, q_88_0, t_90, q_90_0, t_92, q_92_0, q_92_1, q_92_2, i_92_3, p_92_3, i_92_4, p_92_4, t_96, q_96_0, i_96_1, p_96_1, i_96_2, p_96_2, i_96_3, p_96_3, t_100, q_100_0, i_100_1, p_100_1, i_100_2, p_100_2, i_100_3, p_100_3, t_104, q_104_1, q_104_2, q_104_3, q_104_4, q_104_5, q_104_6, q_104_8, q_104_9, q_104_11, q_104_12, q_104_18, q_104_21, q_104_22, q_104_23, q_104_24, q_104_26, q_104_27, q_104_28, q_104_30, q_104_31, i_104_0, p_104_0, i_104_7, p_104_7, i_104_10, p_104_10, i_104_13, p_104_13, i_104_14, p_104_14, i_104_15, p_104_15, i_104_16, p_104_16, i_104_17, p_104_17, i_104_19, p_104_19, i_104_20, p_104_20, i_104_25, p_104_25, i_104_29, p_104_29, a_2, w_2, a_81, w_81, a_89, w_89, a_91, w_91, a_93, w_93, a_94, w_94, a_95, w_95, a_105, w_105, a_106, w_106, a_107, w_107, a_108, w_108, a_109, w_109, a_110, w_110, a_111, w_111, a_112, w_112, a_113, w_113, a_114, w_114, a_115, w_115, a_116, w_116, a_117, w_117, a_118, w_118, a_119, w_119, a_120, w_120, a_121, w_121, a_122, w_122, a_123, w_123, a_124, w_124, r16, up_k2, up_k3, t10, up_P (show 10 < 16 by omega), m_byteAt h.r rM_15 (show p ≤ 10000 by omega), c0, rM_15, up_15, e1, m_fg h.r rM_15 (show p + 1 ≤ 10000 by omega), if_pos c1, tf, rM_17, Int.add_zero]
        rw [if_neg c2]
    · have hD : ¬ hasD tx p = true := by unfold hasD; simp [c1]
      have eq3 : q3 tx p = p := by unfold q3; rw [if_neg hD]
      have ePD : PD tx p P = vup P 10 (-1) := by unfold PD; rw [if_neg hD]
      have ekD : kD tx p = 0 := by unfold kD; rw [if_neg hD]
      have eP : clP tx p = clC tx p := by
        have : clD tx p = (0, 0) := by unfold clD; rw [if_neg (fun q => hD q.1)]
        unfold clP; rw [this, if_neg (by simp), eq3]
      rw [eP, eq3, ePD, ekD]
      have tc := fun P k2 k3 fg fp K => m_takeCutter (z := z) (g := g) (K := K) (P := P) (k1 := k1) (k2 := k2) (k3 := k3) (w := w) (fg := fg) (fp := fp) h h16 hm (show p + 1 ≤ n by omega)
      have pre : ∀ K, PX11_takePoints (ad z 104) (J (16 * (m : Int))) (lay z g (rM C m P k1 k2 k3 w (p : Nat) fg fp)) K = PX11_takeCutter (ad z 104) (J (16 * (m : Int))) (lay z g (rM C m (vup P 10 (-1)) k1 0 0 w ((p + 1 : Nat) : Int) fg fp)) (fun r17 M18 => K r17 M18) := fun K => by
        unfold PX11_takePoints
        simp (disch := omega) only [J_add, J_sub, J_mul, J_lt, J_le, J_eq, xbr_true, xbr_false, xbr_pos, xbr_neg, Int.toNat_natCast, all_eq, ex_eq, t_0, q_0_0, q_0_1, q_0_2, q_0_3, q_0_4, q_0_5, q_0_6, q_0_7, q_0_8, q_0_9, i_0_10, p_0_10, i_0_11, p_0_11, i_0_12, p_0_12, t_1, q_1_0, t_3, q_3_0, q_3_1, i_3_2, p_3_2, i_3_3, p_3_3, t_80, q_80_0, t_88, q_88_0, t_90, q_90_0, t_92, q_92_0, q_92_1, q_92_2, i_92_3, p_92_3, i_92_4, p_92_4, t_96, q_96_0, i_96_1, p_96_1, i_96_2, p_96_2, i_96_3, p_96_3, t_100, q_100_0, i_100_1, p_100_1, i_100_2, p_100_2, i_100_3, p_100_3, t_104, q_104_1, q_104_2, q_104_3, q_104_4, q_104_5, q_104_6, q_104_8, q_104_9, q_104_11, q_104_12, q_104_18, q_104_21, q_104_22, q_104_23, q_104_24, q_104_26, q_104_27, q_104_28, q_104_30, q_104_31, i_104_0, p_104_0, i_104_7, p_104_7, i_104_10, p_104_10, i_104_13, p_104_13, i_104_14, p_104_14, i_104_15, p_104_15, i_104_16, p_104_16, i_104_17, p_104_17, i_104_19, p_104_19, i_104_20, p_104_20, i_104_25, p_104_25, i_104_29, p_104_29, a_2, w_2, a_81, w_81, a_89, w_89, a_91, w_91, a_93, w_93, a_94, w_94, a_95, w_95, a_105, w_105, a_106, w_106, a_107, w_107, a_108, w_108, a_109, w_109, a_110, w_110, a_111, w_111, a_112, w_112, a_113, w_113, a_114, w_114, a_115, w_115, a_116, w_116, a_117, w_117, a_118, w_118, a_119, w_119, a_120, w_120, a_121, w_121, a_122, w_122, a_123, w_123, a_124, w_124, r16, up_k2, up_k3, t10, up_P (show 10 < 16 by omega), m_byteAt h.r rM_15 (show p ≤ 10000 by omega), c0, rM_15, up_15, e1, m_fg h.r rM_15 (show p + 1 ≤ 10000 by omega), if_neg c1]
      by_cases c4 : isLt (tx (p + 1)) = true
      · have l5 := b1.2.2 (by have := isLt_t c4; omega)
        have l6 := fgN_n hD0 (p := p + 2) (by omega)
        by_cases c5 : fgF tx (p + 2) = 0
        · have e : clC tx p = (0, 0) := by unfold clC; rw [if_pos c0, if_neg (by simp [c4]), if_neg (by omega)]
          rw [e]
          have eq4 : q4 tx p = p + 2 + fgN tx (p + 2) := by unfold q4; rw [if_pos c0]
          have ePC : PC tx p (vup P 10 (-1)) = pdg (vup (vup P 10 (-1)) 10 (tx (p + 1) - 97)) tx 11 (p + 2) (fgN tx (p + 2)) := by unfold PC; rw [if_pos c0]
          have ekC : kC tx p = (fgN tx (p + 2) : Nat) := by unfold kC; rw [if_pos c0]
          refine ⟨fun q => absurd rfl q, fun _ => ⟨by rw [eq4]; exact l6, (fgN tx (p + 2) : Nat), fun K => ?_⟩⟩
          rw [pre, tc, if_pos c4, ePC, ekC, eq4]
          show K (J (fgF tx (p + 2) : Nat)) (lay z g (rM C m _ _ _ _ _ _ _ (if fgF tx (p + 2) = 0 then _ else _))) = _
          rw [c5, if_pos rfl]
          rfl
        · have e : clC tx p = (fgF tx (p + 2), p + 2 + fgN tx (p + 2)) := by unfold clC; rw [if_pos c0, if_neg (by simp [c4]), if_pos c5]
          rw [e]
          refine ⟨fun _ => ⟨l6, _, 0, (fgN tx (p + 2) : Nat), (fgN tx (p + 2) : Nat), ((hP10.v (i := 10) (x := tx (p + 1) - 97) (by omega)).d (f := 11) (tx := tx) (p := p + 2)), fun K => ?_⟩, fun q => absurd q c5⟩
          rw [pre, tc, if_pos c4]
          show K (J (fgF tx (p + 2) : Nat)) (lay z g (rM C m _ _ _ _ _ _ _ (if fgF tx (p + 2) = 0 then _ else _))) = _
          rw [if_neg c5]
      · have e : clC tx p = (1, p + 1) := by unfold clC; rw [if_pos c0, if_pos (by simpa using c4)]
        rw [e]
        refine ⟨fun _ => ⟨by show p + 1 ≤ n; omega, _, 0, 0, fg, hP10, fun K => ?_⟩, fun q => by simp at q⟩
        rw [pre, tc, if_neg c4]
        rfl
  · have hD : ¬ hasD tx p = true := by unfold hasD; simp [c0]
    have eq3 : q3 tx p = p := by unfold q3; rw [if_neg hD]
    have ePD : PD tx p P = vup P 10 (-1) := by unfold PD; rw [if_neg hD]
    have ekD : kD tx p = 0 := by unfold kD; rw [if_neg hD]
    have eP : clP tx p = (0, 0) := by
      have : clD tx p = (0, 0) := by unfold clD; rw [if_neg (fun q => hD q.1)]
      unfold clP; rw [this, if_neg (by simp), eq3]; unfold clC; rw [if_neg c0]
    rw [eP, eq3, ePD, ekD]
    have eq4 : q4 tx p = p := by unfold q4; rw [if_neg c0]
    have ePC : PC tx p (vup P 10 (-1)) = vup P 10 (-1) := by unfold PC; rw [if_neg c0]
    have ekC : kC tx p = 0 := by unfold kC; rw [if_neg c0]
    refine ⟨fun q => absurd rfl q, fun _ => ⟨by rw [eq4]; exact hp, fg, fun K => ?_⟩⟩
    rw [ePC, ekC, eq4]
    unfold PX11_takePoints
    simp (disch := omega) only [J_add, J_sub, J_mul, J_lt, J_le, J_eq, xbr_true, xbr_false, xbr_pos, xbr_neg, Int.toNat_natCast, all_eq, ex_eq, t_0, q_0_0, q_0_1, q_0_2, q_0_3, q_0_4, q_0_5, q_0_6, q_0_7, q_0_8, q_0_9, i_0_10, p_0_10, i_0_11, p_0_11, i_0_12, p_0_12, t_1, q_1_0, t_3, q_3_0, q_3_1, i_3_2, p_3_2, i_3_3, p_3_3, t_80, q_80_0, t_88, q_88_0, t_90, q_90_0, t_92, q_92_0, q_92_1, q_92_2, i_92_3, p_92_3, i_92_4, p_92_4, t_96, q_96_0, i_96_1, p_96_1, i_96_2, p_96_2, i_96_3, p_96_3, t_100, q_100_0, i_100_1, p_100_1, i_100_2, p_100_2, i_100_3, p_100_3, t_104, q_104_1, q_104_2, q_104_3, q_104_4, q_104_5, q_104_6, q_104_8, q_104_9, q_104_11, q_104_12, q_104_18, q_104_21, q_104_22, q_104_23, q_104_24, q_104_26, q_104_27, q_104_28, q_104_30, q_104_31, i_104_0, p_104_0, i_104_7, p_104_7, i_104_10, p_104_10, i_104_13, p_104_13, i_104_14, p_104_14, i_104_15, p_104_15, i_104_16, p_104_16, i_104_17, p_104_17, i_104_19, p_104_19, i_104_20, p_104_20, i_104_25, p_104_25, i_104_29, p_104_29, a_2, w_2, a_81, w_81, a_89, w_89, a_91, w_91, a_93, w_93, a_94, w_94, a_95, w_95, a_105, w_105, a_106, w_106, a_107, w_107, a_108, w_108, a_109, w_109, a_110, w_110, a_111, w_111, a_112, w_112, a_113, w_113, a_114, w_114, a_115, w_115, a_116, w_116, a_117, w_117, a_118, w_118, a_119, w_119, a_120, w_120, a_121, w_121, a_122, w_122, a_123, w_123, a_124, w_124, r16, up_k2, up_k3, t10, up_P (show 10 < 16 by omega), m_byteAt h.r rM_15 (show p ≤ 10000 by omega)]
end RPT
