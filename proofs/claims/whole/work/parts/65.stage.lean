/-! READING A TEXT: the class, part by part -/
/-- the class fails with fault f at pl -/
def FlC (z q : Nat) (g : Mem) (C : Nat → Nat → Int) (m f pl : Nat) (X : (Int32 → Mem → Prop) → Prop) : Prop := ∃ (C' : Nat → Nat → Int) (d : Nat) (a x y : Int), (∀ o, o < 8 + 3 * m ∨ 79 < o → C' o = C o) ∧ (BooksOk C → BooksOk C') ∧ ∀ K, X K = K (J 0) (lay z (prM g z q d a (f : Nat) (pl : Nat) x y) C')
section STG
variable {z q n m p : Nat} {g : Mem} {C : Nat → Nat → Int} {v : Nat → Int} {sg : List Int} {tx : Nat → Int} {kd0 pl vl bf : Int}
theorem FlC.mk {f pl' : Nat} {X : (Int32 → Mem → Prop) → Prop} (hm : m < 24) (hv : VOk v) (h : ∃ (d : Nat) (a x y : Int) (sg' : List Int), ∀ K, X K = K (J 0) (lay z (prM g z q d a (f : Nat) (pl' : Nat) x y) (dC C m v sg'))) : FlC z q g C m f pl' X := by
  obtain ⟨d, a, x, y, sg', h⟩ := h
  exact ⟨_, d, a, x, y, fun o h1 => dC_ne (by omega), fun hb => hb.d hv, h⟩
theorem s_lt {M : Mem} {K : Int32 → Prop} {x : Int} (hx : -1 ≤ x ∧ x ≤ 255) : PX5_isLetter (J x) M K = K (J (if isLt x then 1 else 0)) := by
  rw [s_isLetter hx]
  unfold isLt
  by_cases c : 97 ≤ x ∧ x ≤ 122
  · simp [c]
  · rw [if_neg c, if_neg (by simpa using c)]
theorem s_fg {M : Mem} {K : Int32 → Prop} {x : Int} (hx : -1 ≤ x ∧ x ≤ 255) : PX5_isFigure (J x) M K = K (J (if isFg x then 1 else 0)) := by
  rw [s_isFigure hx]
  unfold isFg
  by_cases c : 48 ≤ x ∧ x ≤ 57
  · simp [c]
  · rw [if_neg c, if_neg (by simpa using c)]
theorem s_skip {d : Nat} {K : Int32 → Mem → Prop} (hq : z + 125 ≤ q) (h : TxC C n tx) (hp : p ≤ n) : PX5_skipBlanks q (lay z (prM g z q d (p : Nat) kd0 pl vl bf) C) K = K (J (if p < skp tx n p then 1 else 0)) (lay z (prM g z q d (skp tx n p : Nat) kd0 pl vl bf) C) := by
  have hn := h.2.1
  have hs := skp_le (tx := tx) hp
  have hg := skp_ge (tx := tx) (n := n) (p := p)
  have fin : ∀ K : Int32 → Mem → Prop, JX5_skipBlanks_39 K (lay z (prM g z q d (skp tx n p : Nat) kd0 pl vl bf) C) q (J (p : Nat)) = K (J (if p < skp tx n p then 1 else 0)) (lay z (prM g z q d (skp tx n p : Nat) kd0 pl vl bf) C) := fun K => by
    unfold JX5_skipBlanks_39
    by_cases c : p < skp tx n p
    · rw [if_pos c]
      simp (disch := omega) only [J_add, J_sub, J_mul, J_lt, J_le, J_eq, xbr_true, xbr_false, xbr_pos, xbr_neg, Int.toNat_natCast, all_eq, ex_eq, p_i3 hq, isB1, true_and]
    · rw [if_neg c]
      simp (disch := omega) only [J_add, J_sub, J_mul, J_lt, J_le, J_eq, xbr_true, xbr_false, xbr_pos, xbr_neg, Int.toNat_natCast, all_eq, ex_eq, p_i3 hq, isB0, true_and]
  have e2 : p + (skp tx n p - p) = skp tx n p := by omega
  unfold PX5_skipBlanks
  simp (disch := omega) only [J_add, J_sub, J_mul, J_lt, J_le, J_eq, xbr_true, xbr_false, xbr_pos, xbr_neg, Int.toNat_natCast, all_eq, ex_eq, p_T hq, p_i3 hq]
  refine lp_for (fun i : Nat => (lay z (prM g z q d ((p + i : Nat) : Int) kd0 pl vl bf) C, J (i : Int))) 0 (skp tx n p - p) _ (by omega) ?_ ?_
  · intro i _ hi kc
    have e := skp_mid (tx := tx) (n := n) (p := p) (i := i) (by omega)
    have ei : ((p + i : Nat) : Int) + 1 = ((p + (i + 1) : Nat) : Int) := by omega
    have ej : (i : Int) + 1 = ((i + 1 : Nat) : Int) := by omega
    unfold BX5_skipBlanks_7 CX5_skipBlanks_7
    simp (disch := omega) only [J_add, J_sub, J_mul, J_lt, J_le, J_eq, xbr_true, xbr_false, xbr_pos, xbr_neg, Int.toNat_natCast, all_eq, ex_eq, s_pnext hq h (show p + i ≤ 10000 by omega), e, p_i3 hq, p_p hq pr_x3, ei, ej]
  · intro kc
    have e := skp_end h hp
    have b := h.b (skp tx n p)
    unfold BX5_skipBlanks_7 CX5_skipBlanks_7
    simp only [e2]
    by_cases c : skp tx n p - p < 600
    · simp (disch := omega) only [J_add, J_sub, J_mul, J_lt, J_le, J_eq, xbr_true, xbr_false, xbr_pos, xbr_neg, Int.toNat_natCast, all_eq, ex_eq, s_pnext hq h (show skp tx n p ≤ 10000 by omega), fin]
    · simp (disch := omega) only [J_add, J_sub, J_mul, J_lt, J_le, J_eq, xbr_true, xbr_false, xbr_pos, xbr_neg, Int.toNat_natCast, all_eq, ex_eq, fin]
theorem s_filled {M : Mem} {K : Int32 → Prop} {k : Nat} (hk : k ≤ 4) {d : Nat → Int} : PX5_filled (J (wholeD d k)) (J (k : Nat)) M K = K (J (filD d k)) := by
  unfold PX5_filled
  have key : ∀ w : Int, ∀ i, i ≤ 4 - k → lp (BX5_filled_4 K M (J (k : Nat))) (J w, J (k : Nat)) = lp (BX5_filled_4 K M (J (k : Nat))) (J (w * 10 ^ i), J ((k + i : Nat) : Int)) := by
    intro w i
    induction i with
    | zero => intro _; rw [Int.pow_zero, Int.mul_one]; rfl
    | succ i ih =>
      intro hi
      rw [ih (by omega)]
      refine lp_step fun kc => ?_
      have e : ((k + i : Nat) : Int) + 1 = ((k + (i + 1) : Nat) : Int) := by omega
      unfold BX5_filled_4 CX5_filled_4
      simp (disch := omega) only [J_add, J_sub, J_mul, J_lt, J_le, J_eq, xbr_true, xbr_false, xbr_pos, xbr_neg, Int.toNat_natCast, all_eq, ex_eq, e]
      rw [Int.pow_succ, Int.mul_assoc]
  rw [key _ (4 - k) (Nat.le_refl _)]
  refine lp_last fun kc => ?_
  have e4 : k + (4 - k) = 4 := by omega
  unfold BX5_filled_4 CX5_filled_4
  rw [e4]
  simp (disch := omega) only [J_add, J_sub, J_mul, J_lt, J_le, J_eq, xbr_true, xbr_false, xbr_pos, xbr_neg, Int.toNat_natCast, all_eq, ex_eq]
  unfold filD
  rcases n4 hk with rfl | rfl | rfl | rfl | rfl <;> simp
theorem s_readFigures (hq : z + 125 ≤ q) (h : TxC C n tx) (hm : m < 24) (hp : p ≤ n) (hl : sg.length + 4 ≤ 23) :
    (fgF tx p = 0 → ∀ K, PX5_readFigures q (lay z (prM g z q (8 + 3 * m) (p : Nat) kd0 pl vl bf) (dC C m v sg)) K = K (J 1) (lay z (prM g z q (8 + 3 * m) ((p + fgN tx p : Nat) : Int) kd0 pl (wholeD (dgs tx p) (fgN tx p)) (filD (dgs tx p) (fgN tx p))) (dC C m v (sg ++ fgL tx p (fgN tx p))))) ∧
    (fgF tx p ≠ 0 → ∃ (a x y : Int) (sg' : List Int), ∀ K, PX5_readFigures q (lay z (prM g z q (8 + 3 * m) (p : Nat) kd0 pl vl bf) (dC C m v sg)) K = K (J 0) (lay z (prM g z q (8 + 3 * m) a (fgF tx p : Nat) ((p + fgN tx p : Nat) : Int) x y) (dC C m v sg'))) := by
  have hn := h.2.1
  have f4 := fgN_le (tx := tx) (p := p)
  have fn := fgN_n h hp
  have b0 := h.b p
  by_cases c0 : fgN tx p = 0
  · have nf : ¬ isFg (tx p) = true := by have := fgN_end (tx := tx) (p := p) (by omega); rw [c0, Nat.add_zero] at this; exact this
    have ef : fgF tx p = 1 := by unfold fgF; rw [if_pos c0]
    refine ⟨fun q => by omega, fun _ => ⟨(p : Nat), vl, bf, sg, fun K => ?_⟩⟩
    rw [ef, c0, Nat.add_zero]
    unfold PX5_readFigures
    simp (disch := omega) only [J_add, J_sub, J_mul, J_lt, J_le, J_eq, xbr_true, xbr_false, xbr_pos, xbr_neg, Int.toNat_natCast, all_eq, ex_eq, p_T hq, s_pnext hq h.d (show p ≤ 10000 by omega), s_fg, if_neg nf, p_i3 hq, s_fail hq, isB0, true_and]
    rfl
  · have yf : isFg (tx p) = true := by
      have := fgN_at (tx := tx) (p := p) (j := 0) (by omega)
      rw [Nat.add_zero] at this
      exact decide_eq_true this
    have wr := wh_r f4 (fun j hj => dgs_r (tx := tx) (p := p) hj)
    -- up to the loop's end
    have main : ∀ K, PX5_readFigures q (lay z (prM g z q (8 + 3 * m) (p : Nat) kd0 pl vl bf) (dC C m v sg)) K = JX5_readFigures_67 K (lay z (prM g z q (8 + 3 * m) ((p + fgN tx p : Nat) : Int) kd0 pl (wholeD (dgs tx p) (fgN tx p)) bf) (dC C m v (sg ++ fgL tx p (fgN tx p)))) q (J (fgN tx p : Nat)) := by
      intro K
      unfold PX5_readFigures
      simp (disch := omega) only [J_add, J_sub, J_mul, J_lt, J_le, J_eq, xbr_true, xbr_false, xbr_pos, xbr_neg, Int.toNat_natCast, all_eq, ex_eq, p_T hq, s_pnext hq h.d (show p ≤ 10000 by omega), s_fg, if_pos yf, p_p hq pr_x6]
      have st : (lay z (prM g z q (8 + 3 * m) (p : Nat) kd0 pl 0 bf) (dC C m v sg), J 0) = (fun i : Nat => (lay z (prM g z q (8 + 3 * m) ((p + i : Nat) : Int) kd0 pl (wholeD (dgs tx p) i) bf) (dC C m v (sg ++ fgL tx p i)), J (i : Int))) 0 := by
        simp [fgL, wholeD]
      rw [st]
      refine lp_for (fun i : Nat => (lay z (prM g z q (8 + 3 * m) ((p + i : Nat) : Int) kd0 pl (wholeD (dgs tx p) i) bf) (dC C m v (sg ++ fgL tx p i)), J (i : Int))) 0 (fgN tx p) _ (by omega) ?_ ?_
      · intro i _ hi kc
        have ai := fgN_at hi
        have li := fgN_lt h hi
        have bi := h.b (p + i)
        have yi : isFg (tx (p + i)) = true := decide_eq_true ai
        have ll : (sg ++ fgL tx p i).length < 23 := by rw [List.length_append, fgL_len]; omega
        have ei : p + i + 1 = p + (i + 1) := by omega
        have ej : (i : Int) + 1 = ((i + 1 : Nat) : Int) := by omega
        have ew : wholeD (dgs tx p) i * 10 + tx (p + i) - 48 = wholeD (dgs tx p) (i + 1) := by
          show _ = 10 * wholeD (dgs tx p) i + dgs tx p i
          unfold dgs; omega
        unfold BX5_readFigures_27 CX5_readFigures_27
        simp (disch := omega) only [J_add, J_sub, J_mul, J_lt, J_le, J_eq, xbr_true, xbr_false, xbr_pos, xbr_neg, Int.toNat_natCast, all_eq, ex_eq, s_pnext hq h.d (show p + i ≤ 10000 by omega), s_fg, if_pos yi, p_i6 hq, s_takeSign hq h hm ll li, p_p hq pr_x6, ew, ej, ei]
        rw [fgL_succ, List.append_assoc]
      · intro kc
        unfold BX5_readFigures_27 CX5_readFigures_27
        by_cases c4 : fgN tx p = 4
        · simp (disch := omega) only [J_add, J_sub, J_mul, J_lt, J_le, J_eq, xbr_true, xbr_false, xbr_pos, xbr_neg, Int.toNat_natCast, all_eq, ex_eq]
        · have nf := fgN_end (tx := tx) (p := p) (by omega)
          have bi := h.b (p + fgN tx p)
          simp (disch := omega) only [J_add, J_sub, J_mul, J_lt, J_le, J_eq, xbr_true, xbr_false, xbr_pos, xbr_neg, Int.toNat_natCast, all_eq, ex_eq, s_pnext hq h.d (show p + fgN tx p ≤ 10000 by omega), s_fg, if_neg nf]
    have bi := h.b (p + fgN tx p)
    by_cases c1 : isFg (tx (p + fgN tx p)) = true
    · have ef : fgF tx p = 2 := by unfold fgF; rw [if_neg c0, if_pos c1]
      refine ⟨fun q => by omega, fun _ => ⟨((p + fgN tx p : Nat) : Int), wholeD (dgs tx p) (fgN tx p), filD (dgs tx p) (fgN tx p), sg ++ fgL tx p (fgN tx p), fun K => ?_⟩⟩
      rw [main, ef]
      unfold JX5_readFigures_67
      simp (disch := omega) only [J_add, J_sub, J_mul, J_lt, J_le, J_eq, xbr_true, xbr_false, xbr_pos, xbr_neg, Int.toNat_natCast, all_eq, ex_eq, p_i6 hq, s_filled f4, p_p hq pr_x7, s_pnext hq h.d (show p + fgN tx p ≤ 10000 by omega), s_fg, if_pos c1, p_i3 hq, s_fail hq, isB0, true_and]
      rfl
    · have ef : fgF tx p = 0 := by unfold fgF; rw [if_neg c0, if_neg c1]
      refine ⟨fun _ K => ?_, fun q => absurd ef q⟩
      rw [main]
      unfold JX5_readFigures_67
      simp (disch := omega) only [J_add, J_sub, J_mul, J_lt, J_le, J_eq, xbr_true, xbr_false, xbr_pos, xbr_neg, Int.toNat_natCast, all_eq, ex_eq, p_i6 hq, s_filled f4, p_p hq pr_x7, s_pnext hq h.d (show p + fgN tx p ≤ 10000 by omega), s_fg, if_neg c1, isB1, true_and]
end STG
