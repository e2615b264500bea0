/-! READING A TEXT: the class, a clause, the whole text -/
section CLT
variable (tx : Nat → Int) (n : Nat)
def vT (p : Nat) : Nat → Int := vW tx n (p4T tx p) (vY tx n (p4T tx p) (vC tx (p3T tx p) (vD tx (p2T tx p) (vB tx (p1T tx p) (vA tx p)))))
def sT (p : Nat) : List Int := sY tx n (p4T tx p) (sC tx (p3T tx p) (sD tx (p2T tx p) (sB tx (p1T tx p) (sA tx p))))
end CLT
def tl5 (q : Nat) (K : Int32 → Mem → Prop) (M : Mem) : Prop := PX5_readEnd q M fun r16 M17 => xbr (r16 = (J 0)) (isB (J 0) ∧ K (J 0) M17) (isB (J 1) ∧ K (J 1) M17)
def tl4 (q : Nat) (K : Int32 → Mem → Prop) (M : Mem) : Prop := PX5_readBehindBlanks q M fun r13 M14 => xbr (r13 = (J 0)) (isB (J 0) ∧ K (J 0) M14) (tl5 q K M14)
def tl3 (q : Nat) (K : Int32 → Mem → Prop) (M : Mem) : Prop := PX5_readCutter q M fun r10 M11 => xbr (r10 = (J 0)) (isB (J 0) ∧ K (J 0) M11) (tl4 q K M11)
def tl2 (q : Nat) (K : Int32 → Mem → Prop) (M : Mem) : Prop := PX5_readDecimals q M fun r7 M8 => xbr (r7 = (J 0)) (isB (J 0) ∧ K (J 0) M8) (tl3 q K M8)
def tl1 (q : Nat) (K : Int32 → Mem → Prop) (M : Mem) : Prop := PX5_readNumber q M fun r4 M5 => xbr (r4 = (J 0)) (isB (J 0) ∧ K (J 0) M5) (tl2 q K M5)
theorem clause_tl (q : Nat) (K : Int32 → Mem → Prop) (M : Mem) : PX5_readClause q M K = tS M 6 q (PX5_readClass q M fun r1 M2 => xbr (r1 = (J 0)) (isB (J 0) ∧ K (J 0) M2) (tl1 q K M2)) := rfl
section CLS
variable {z q n m p : Nat} {g : Mem} {C : Nat → Nat → Int} {v : Nat → Int} {sg : List Int} {tx : Nat → Int} {kd0 pl vl bf : Int}
theorem FlC.bind {f pl' : Nat} {X X1 : (Int32 → Mem → Prop) → Prop} (R : (Int32 → Mem → Prop) → Mem → Prop) (h : FlC z q g C m f pl' X1) (e : ∀ K, X K = X1 (fun r M2 => xbr (r = J 0) (isB (J 0) ∧ K (J 0) M2) (R K M2))) : FlC z q g C m f pl' X := by
  obtain ⟨C', d, a, x, y, h1, h2, h3⟩ := h
  refine ⟨C', d, a, x, y, h1, h2, fun K => ?_⟩
  rw [e, h3]
  simp (disch := omega) only [J_add, J_sub, J_mul, J_lt, J_le, J_eq, xbr_true, xbr_false, xbr_pos, xbr_neg, Int.toNat_natCast, all_eq, ex_eq, isB0, true_and]
theorem s_j32 (hq : z + 125 ≤ q) (h : TxC C n tx) (hm : m < 24) (hp : p ≤ n) (hv : VOk v) (b : Bool) :
    ((b = true ∧ tx p = 119) → ¬ (49 ≤ tx (p + 1) ∧ tx (p + 1) ≤ 57) → FlC z q g C m 1 (p + 1) (fun K => JX5_readBehindBlanks_32 K (lay z (prM g z q (8 + 3 * m) (p : Nat) kd0 pl vl bf) (dC C m v sg)) q (J (if b then 1 else 0)))) ∧
    ((b = true ∧ tx p = 119) → (49 ≤ tx (p + 1) ∧ tx (p + 1) ≤ 57) → ∀ K, JX5_readBehindBlanks_32 K (lay z (prM g z q (8 + 3 * m) (p : Nat) kd0 pl vl bf) (dC C m v sg)) q (J (if b then 1 else 0)) = K (J 1) (lay z (prM g z q (8 + 3 * m) (skp tx n (p + 2) : Nat) kd0 pl vl bf) (dC C m (vup v 11 (tx (p + 1) - 48)) sg))) ∧
    (¬ (b = true ∧ tx p = 119) → ∀ K, JX5_readBehindBlanks_32 K (lay z (prM g z q (8 + 3 * m) (p : Nat) kd0 pl vl bf) (dC C m v sg)) q (J (if b then 1 else 0)) = K (J 1) (lay z (prM g z q (8 + 3 * m) (p : Nat) kd0 pl vl bf) (dC C m v sg))) := by
  have hn := h.2.1
  have b0 := h.b p
  have b1 := h.b (p + 1)
  refine ⟨fun c c2 => ?_, fun c c2 K => ?_, fun c K => ?_⟩
  · obtain ⟨r1, r2⟩ := s_readThick (g := g) (sg := sg) (kd0 := kd0) (pl := pl) (vl := vl) (bf := bf) hq h hm (b0.2.2 (by omega)) hv
    refine FlC.bind (fun K M9 => PX5_skipBlanks q M9 fun r11 M12 => isB (J 1) ∧ K (J 1) M12) (r1 c2) fun K => ?_
    unfold JX5_readBehindBlanks_32
    rw [if_pos c.1]
    simp (disch := omega) only [J_add, J_sub, J_mul, J_lt, J_le, J_eq, xbr_true, xbr_false, xbr_pos, xbr_neg, Int.toNat_natCast, all_eq, ex_eq, s_pnext hq h.d (show p ≤ 10000 by omega), c.2]
  · obtain ⟨r1, r2⟩ := s_readThick (g := g) (sg := sg) (kd0 := kd0) (pl := pl) (vl := vl) (bf := bf) hq h hm (b0.2.2 (by omega)) hv
    have r := r2 c2
    have lp := b1.2.2 (by omega)
    unfold JX5_readBehindBlanks_32
    rw [if_pos c.1]
    simp (disch := omega) only [J_add, J_sub, J_mul, J_lt, J_le, J_eq, xbr_true, xbr_false, xbr_pos, xbr_neg, Int.toNat_natCast, all_eq, ex_eq, s_pnext hq h.d (show p ≤ 10000 by omega), c.2, r, s_skip hq h.d (show p + 2 ≤ n by omega), isB1, true_and]
  · unfold JX5_readBehindBlanks_32
    cases b with
    | false =>
      rw [if_neg (by simp)]
      simp (disch := omega) only [J_add, J_sub, J_mul, J_lt, J_le, J_eq, xbr_true, xbr_false, xbr_pos, xbr_neg, Int.toNat_natCast, all_eq, ex_eq, isB1, true_and]
    | true =>
      have c2 : ¬ tx p = 119 := fun q => c ⟨rfl, q⟩
      rw [if_pos rfl]
      simp (disch := omega) only [J_add, J_sub, J_mul, J_lt, J_le, J_eq, xbr_true, xbr_false, xbr_pos, xbr_neg, Int.toNat_natCast, all_eq, ex_eq, s_pnext hq h.d (show p ≤ 10000 by omega), isB1, true_and]
theorem VOk.y (hv : VOk v) (h : 1000 ≤ yrT tx n p ∧ yrT tx n p ≤ 2999) : VOk (vup v 10 (yrT tx n p)) := by
  unfold VOk at hv ⊢
  unfold vup
  simp
  omega
theorem s_behind (hq : z + 125 ≤ q) (h : TxC C n tx) (hm : m < 24) (hp : p ≤ n) (hl : sg.length + 6 ≤ 23) (hv : VOk v) :
    ((clY tx n p).1 ≠ 0 → FlC z q g C m (clY tx n p).1 (clY tx n p).2 (fun K => PX5_readBehindBlanks q (lay z (prM g z q (8 + 3 * m) (p : Nat) kd0 pl vl bf) (dC C m v sg)) K)) ∧
    ((clY tx n p).1 = 0 → (clW tx n p).1 ≠ 0 → FlC z q g C m (clW tx n p).1 (clW tx n p).2 (fun K => PX5_readBehindBlanks q (lay z (prM g z q (8 + 3 * m) (p : Nat) kd0 pl vl bf) (dC C m v sg)) K)) ∧
    ((clY tx n p).1 = 0 → (clW tx n p).1 = 0 → q6 tx n p ≤ n ∧ ∃ x y : Int, ∀ K, PX5_readBehindBlanks q (lay z (prM g z q (8 + 3 * m) (p : Nat) kd0 pl vl bf) (dC C m v sg)) K = K (J 1) (lay z (prM g z q (8 + 3 * m) (q6 tx n p : Nat) kd0 pl x y) (dC C m (vW tx n p (vY tx n p v)) (sY tx n p sg)))) := by
  have hn := h.2.1
  have ks := skp_le (tx := tx) hp
  have bs := h.b (skp tx n p)
  -- behind the year, if there is one: at q5, with its flag
  have tail : ∀ (v' : Nat → Int) (sg' : List Int) (x y : Int) (X : (Int32 → Mem → Prop) → Prop), q5 tx n p ≤ n → VOk v' → (∀ K, X K = JX5_readBehindBlanks_32 K (lay z (prM g z q (8 + 3 * m) (q5 tx n p : Nat) kd0 pl x y) (dC C m v' sg')) q (J (if parT tx n p then 1 else 0))) → ((clW tx n p).1 ≠ 0 → FlC z q g C m (clW tx n p).1 (clW tx n p).2 X) ∧ ((clW tx n p).1 = 0 → q6 tx n p ≤ n ∧ ∀ K, X K = K (J 1) (lay z (prM g z q (8 + 3 * m) (q6 tx n p : Nat) kd0 pl x y) (dC C m (vW tx n p v') sg'))) := by
    intro v' sg' x y X h5 hv' hX
    obtain ⟨r1, r2, r3⟩ := s_j32 (g := g) (sg := sg') (kd0 := kd0) (pl := pl) (vl := x) (bf := y) hq h hm h5 hv' (parT tx n p)
    by_cases w : hasW tx n p = true
    · have w' : parT tx n p = true ∧ tx (q5 tx n p) = 119 := by unfold hasW at w; simpa using w
      have b5 := h.b (q5 tx n p + 1)
      by_cases c : 49 ≤ tx (q5 tx n p + 1) ∧ tx (q5 tx n p + 1) ≤ 57
      · have e : clW tx n p = (0, 0) := by unfold clW; rw [if_pos w, if_pos c]
        rw [e]
        have e6 : q6 tx n p = skp tx n (q5 tx n p + 2) := by unfold q6; rw [if_pos w]
        have ev : vW tx n p v' = vup v' 11 (tx (q5 tx n p + 1) - 48) := by unfold vW; rw [if_pos w]
        refine ⟨fun q => absurd rfl q, fun _ => ⟨by rw [e6]; exact skp_le (by have := b5.2.2 (by omega); omega), fun K => ?_⟩⟩
        rw [hX, r2 w' c, e6, ev]
      · have e : clW tx n p = (1, q5 tx n p + 1) := by unfold clW; rw [if_pos w, if_neg c]
        rw [e]
        obtain ⟨C', d, a, x', y', f1, f2, f3⟩ := r1 w' c
        refine ⟨fun _ => ⟨C', d, a, x', y', f1, f2, fun K => ?_⟩, fun q => by simp at q⟩
        rw [hX]
        exact f3 K
    · have w' : ¬ (parT tx n p = true ∧ tx (q5 tx n p) = 119) := fun q => w (by unfold hasW; simp [q.1, q.2])
      have e : clW tx n p = (0, 0) := by unfold clW; rw [if_neg w]
      rw [e]
      have e6 : q6 tx n p = q5 tx n p := by unfold q6; rw [if_neg w]
      have ev : vW tx n p v' = v' := by unfold vW; rw [if_neg w]
      refine ⟨fun q => absurd rfl q, fun _ => ⟨by rw [e6]; exact h5, fun K => ?_⟩⟩
      rw [hX, r3 w', e6, ev]
  by_cases yy : hasY tx n p = true
  · have y' : p < skp tx n p ∧ tx (skp tx n p) = 121 := by unfold hasY at yy; simpa using yy
    have ls : skp tx n p < n := bs.2.2 (by omega)
    obtain ⟨r1, r2, r3⟩ := s_readYear (g := g) (sg := sg) (kd0 := kd0) (pl := pl) (vl := vl) (bf := bf) hq h hm ls hl hv
    have f4 := fgN_le (tx := tx) (p := skp tx n p + 1)
    have pre : ∀ K, PX5_readBehindBlanks q (lay z (prM g z q (8 + 3 * m) (p : Nat) kd0 pl vl bf) (dC C m v sg)) K = PX5_readYear q (lay z (prM g z q (8 + 3 * m) (skp tx n p : Nat) kd0 pl vl bf) (dC C m v sg)) (fun r16 M17 => xbr (r16 = J 0) (isB (J 0) ∧ K (J 0) M17) (PX5_skipBlanks q M17 fun r19 M20 => JX5_readBehindBlanks_32 K M20 q r19)) := fun K => by
      unfold PX5_readBehindBlanks
      simp (disch := omega) only [J_add, J_sub, J_mul, J_lt, J_le, J_eq, xbr_true, xbr_false, xbr_pos, xbr_neg, Int.toNat_natCast, all_eq, ex_eq, p_T hq, s_skip hq h.d hp, if_pos y'.1, s_pnext hq h.d (show skp tx n p ≤ 10000 by omega), y'.2]
    by_cases c1 : fgN tx (skp tx n p + 1) < 4
    · have e : clY tx n p = (1, skp tx n p + 1 + fgN tx (skp tx n p + 1)) := by unfold clY; rw [if_pos yy, if_pos c1]
      rw [e]
      exact ⟨fun _ => FlC.bind (fun K M17 => PX5_skipBlanks q M17 fun r19 M20 => JX5_readBehindBlanks_32 K M20 q r19) (r1 c1) pre, fun q => by simp at q, fun q => by simp at q⟩
    · have c1' : fgN tx (skp tx n p + 1) = 4 := by omega
      by_cases c2 : 1000 ≤ yrT tx n p ∧ yrT tx n p ≤ 2999
      · have e : clY tx n p = (0, 0) := by unfold clY; rw [if_pos yy, if_neg c1, if_pos c2]
        rw [e]
        obtain ⟨x, y, r⟩ := r3 c1' c2
        have l5 : skp tx n p + 5 ≤ n := by
          have := fgN_lt h (p := skp tx n p + 1) (j := 3) (by omega)
          omega
        have e5 : q5 tx n p = skp tx n (skp tx n p + 5) := by unfold q5; rw [if_pos yy]
        have ep : parT tx n p = decide (skp tx n p + 5 < skp tx n (skp tx n p + 5)) := by unfold parT; rw [if_pos yy]
        have evY : vY tx n p v = vup v 10 (yrT tx n p) := by unfold vY; rw [if_pos yy]
        have esY : sY tx n p sg = ((sg ++ [32]) ++ [tx (skp tx n p)]) ++ fgL tx (skp tx n p + 1) 4 := by unfold sY; rw [if_pos yy]
        obtain ⟨t1, t2⟩ := tail (vY tx n p v) (sY tx n p sg) x y (fun K => PX5_readBehindBlanks q (lay z (prM g z q (8 + 3 * m) (p : Nat) kd0 pl vl bf) (dC C m v sg)) K) (by rw [e5]; exact skp_le l5) (by rw [evY]; exact hv.y c2) (fun K => by
          have hsk := fun K => s_skip (K := K) (g := g) (d := 8 + 3 * m) (kd0 := kd0) (pl := pl) (vl := x) (bf := y) hq (h.d (m := m) (v := vup v 10 (yrT tx n p)) (sg := ((sg ++ [32]) ++ [tx (skp tx n p)]) ++ fgL tx (skp tx n p + 1) 4)) l5
          show PX5_readBehindBlanks q _ K = _
          rw [pre, r, evY, esY, e5, ep]
          simp (disch := omega) only [J_add, J_sub, J_mul, J_lt, J_le, J_eq, xbr_true, xbr_false, xbr_pos, xbr_neg, Int.toNat_natCast, all_eq, ex_eq]
          have ey : wholeD (dgs tx (skp tx n p + 1)) 4 = yrT tx n p := rfl
          rw [ey, hsk]
          simp only [decide_eq_true_eq])
        exact ⟨fun q => absurd rfl q, fun _ => t1, fun _ w => ⟨(t2 w).1, x, y, (t2 w).2⟩⟩
      · have e : clY tx n p = (3, skp tx n p + 1) := by unfold clY; rw [if_pos yy, if_neg c1, if_neg c2]
        rw [e]
        exact ⟨fun _ => FlC.bind (fun K M17 => PX5_skipBlanks q M17 fun r19 M20 => JX5_readBehindBlanks_32 K M20 q r19) (r2 c1' c2) pre, fun q => by simp at q, fun q => by simp at q⟩
  · have y' : ¬ (p < skp tx n p ∧ tx (skp tx n p) = 121) := fun q => yy (by unfold hasY; simp [q.1, q.2])
    have e : clY tx n p = (0, 0) := by unfold clY; rw [if_neg yy]
    rw [e]
    have e5 : q5 tx n p = skp tx n p := by unfold q5; rw [if_neg yy]
    have ep : parT tx n p = decide (p < skp tx n p) := by unfold parT; rw [if_neg yy]
    have evY : vY tx n p v = v := by unfold vY; rw [if_neg yy]
    have esY : sY tx n p sg = sg := by unfold sY; rw [if_neg yy]
    obtain ⟨t1, t2⟩ := tail v sg vl bf (fun K => PX5_readBehindBlanks q (lay z (prM g z q (8 + 3 * m) (p : Nat) kd0 pl vl bf) (dC C m v sg)) K) (by rw [e5]; exact ks) hv (fun K => by
      show PX5_readBehindBlanks q _ K = _
      rw [e5, ep]
      unfold PX5_readBehindBlanks
      by_cases c : p < skp tx n p
      · have c2 : ¬ tx (skp tx n p) = 121 := fun q => y' ⟨c, q⟩
        simp (disch := omega) only [J_add, J_sub, J_mul, J_lt, J_le, J_eq, xbr_true, xbr_false, xbr_pos, xbr_neg, Int.toNat_natCast, all_eq, ex_eq, p_T hq, s_skip hq h.d hp, if_pos c, s_pnext hq h.d (show skp tx n p ≤ 10000 by omega), decide_eq_true c]
        simp
      · simp (disch := omega) only [J_add, J_sub, J_mul, J_lt, J_le, J_eq, xbr_true, xbr_false, xbr_pos, xbr_neg, Int.toNat_natCast, all_eq, ex_eq, p_T hq, s_skip hq h.d hp, if_neg c]
        simp [c])
    rw [evY, esY]
    exact ⟨fun q => absurd rfl q, fun _ => t1, fun _ w => ⟨(t2 w).1, vl, bf, (t2 w).2⟩⟩
theorem cmp_eqK {D : Nat → Nat → Int} {o o' : Nat} {k : Int} : cmpC D o o' k = 0 ↔ eqK (fun i => keyC D o i k) (fun i => keyC D o' i k) = true := by
  have h5 := fst1_le 5 (fun i => keyC D o i k != keyC D o' i k)
  unfold cmpC eqK
  rw [decide_eq_true_eq]
  show _ ↔ fst1 5 (fun i => keyC D o i k != keyC D o' i k) = 5
  by_cases c : fst1 5 (fun p => keyC D o p k != keyC D o' p k) < 5
  · rw [if_pos c]
    constructor
    · intro h; split at h <;> omega
    · intro h; omega
  · rw [if_neg c]
    exact ⟨fun _ => by omega, fun _ => rfl⟩
theorem s_hasMark {K : Int32 → Prop} {G : Mem} {D : Nat → Nat → Int} (hm3 : D 3 3 = m) (hm : m < 24) (hB : BooksOk D) : PX2_hasMarkOfDraft (ad z 3) (lay z G D) K = K (J (if tld (fun b i => keyC D (8 + 3 * b) i 0) m (fun i => keyC D (8 + 3 * m) i 0) then 1 else 0)) := by
  unfold PX2_hasMarkOfDraft
  simp (disch := omega) only [J_add, J_sub, J_mul, J_lt, J_le, J_eq, xbr_true, xbr_false, xbr_pos, xbr_neg, Int.toNat_natCast, all_eq, ex_eq, t_0, q_0_0, q_0_1, q_0_2, q_0_3, q_0_4, q_0_5, q_0_6, q_0_7, q_0_8, q_0_9, i_0_10, p_0_10, i_0_11, p_0_11, i_0_12, p_0_12, t_1, q_1_0, t_3, q_3_0, q_3_1, i_3_2, p_3_2, i_3_3, p_3_3, t_80, q_80_0, t_88, q_88_0, t_90, q_90_0, t_92, q_92_0, q_92_1, q_92_2, i_92_3, p_92_3, i_92_4, p_92_4, t_96, q_96_0, i_96_1, p_96_1, i_96_2, p_96_2, i_96_3, p_96_3, t_100, q_100_0, i_100_1, p_100_1, i_100_2, p_100_2, i_100_3, p_100_3, t_104, q_104_1, q_104_2, q_104_3, q_104_4, q_104_5, q_104_6, q_104_8, q_104_9, q_104_11, q_104_12, q_104_18, q_104_21, q_104_22, q_104_23, q_104_24, q_104_26, q_104_27, q_104_28, q_104_30, q_104_31, i_104_0, p_104_0, i_104_7, p_104_7, i_104_10, p_104_10, i_104_13, p_104_13, i_104_14, p_104_14, i_104_15, p_104_15, i_104_16, p_104_16, i_104_17, p_104_17, i_104_19, p_104_19, i_104_20, p_104_20, i_104_25, p_104_25, i_104_29, p_104_29, a_2, w_2, a_81, w_81, a_89, w_89, a_91, w_91, a_93, w_93, a_94, w_94, a_95, w_95, a_105, w_105, a_106, w_106, a_107, w_107, a_108, w_108, a_109, w_109, a_110, w_110, a_111, w_111, a_112, w_112, a_113, w_113, a_114, w_114, a_115, w_115, a_116, w_116, a_117, w_117, a_118, w_118, a_119, w_119, a_120, w_120, a_121, w_121, a_122, w_122, a_123, w_123, a_124, w_124, tS_lay (o := 3) (t := 3) rfl]
  have hF := fst1_le m (fun b => eqK (fun i => keyC D (8 + 3 * b) i 0) (fun i => keyC D (8 + 3 * m) i 0))
  have om : isBook (8 + 3 * m) := Or.inr ⟨m, hm, rfl⟩
  refine lp_for (fun b : Nat => J (b : Int)) 0 (fst1 m (fun b => eqK (fun i => keyC D (8 + 3 * b) i 0) (fun i => keyC D (8 + 3 * m) i 0))) _ (by omega) ?_ ?_
  · intro b _ hb kc
    have h6 := fst1_lt hb
    have ob : isBook (8 + 3 * b) := Or.inr ⟨b, by omega, rfl⟩
    have cr := cmpC_r (C := D) (o := 8 + 3 * b) (o' := 8 + 3 * m) 0
    have cn : ¬ cmpC D (8 + 3 * b) (8 + 3 * m) 0 = 0 := fun q => by rw [cmp_eqK.mp q] at h6; cases h6
    unfold BX2_hasMarkOfDraft_2 CX2_hasMarkOfDraft_2
    simp (disch := omega) only [J_add, J_sub, J_mul, J_lt, J_le, J_eq, xbr_true, xbr_false, xbr_pos, xbr_neg, Int.toNat_natCast, all_eq, ex_eq, t_0, q_0_0, q_0_1, q_0_2, q_0_3, q_0_4, q_0_5, q_0_6, q_0_7, q_0_8, q_0_9, i_0_10, p_0_10, i_0_11, p_0_11, i_0_12, p_0_12, t_1, q_1_0, t_3, q_3_0, q_3_1, i_3_2, p_3_2, i_3_3, p_3_3, t_80, q_80_0, t_88, q_88_0, t_90, q_90_0, t_92, q_92_0, q_92_1, q_92_2, i_92_3, p_92_3, i_92_4, p_92_4, t_96, q_96_0, i_96_1, p_96_1, i_96_2, p_96_2, i_96_3, p_96_3, t_100, q_100_0, i_100_1, p_100_1, i_100_2, p_100_2, i_100_3, p_100_3, t_104, q_104_1, q_104_2, q_104_3, q_104_4, q_104_5, q_104_6, q_104_8, q_104_9, q_104_11, q_104_12, q_104_18, q_104_21, q_104_22, q_104_23, q_104_24, q_104_26, q_104_27, q_104_28, q_104_30, q_104_31, i_104_0, p_104_0, i_104_7, p_104_7, i_104_10, p_104_10, i_104_13, p_104_13, i_104_14, p_104_14, i_104_15, p_104_15, i_104_16, p_104_16, i_104_17, p_104_17, i_104_19, p_104_19, i_104_20, p_104_20, i_104_25, p_104_25, i_104_29, p_104_29, a_2, w_2, a_81, w_81, a_89, w_89, a_91, w_91, a_93, w_93, a_94, w_94, a_95, w_95, a_105, w_105, a_106, w_106, a_107, w_107, a_108, w_108, a_109, w_109, a_110, w_110, a_111, w_111, a_112, w_112, a_113, w_113, a_114, w_114, a_115, w_115, a_116, w_116, a_117, w_117, a_118, w_118, a_119, w_119, a_120, w_120, a_121, w_121, a_122, w_122, a_123, w_123, a_124, w_124, gI_lay (t := 3) (o := 3) (k := 3) rfl, hm3, s_of, bkO_nat (show b < 24 by omega), s_draft hm3 (show m ≤ 24 by omega), bkO_nat hm, s_compareBy ob (hB _ ob) om (hB _ om)]
    rfl
  · intro kc
    unfold BX2_hasMarkOfDraft_2 CX2_hasMarkOfDraft_2 tld
    by_cases c : fst1 m (fun b => eqK (fun i => keyC D (8 + 3 * b) i 0) (fun i => keyC D (8 + 3 * m) i 0)) < m
    · have h6 := fst1_at c
      rw [if_pos (decide_eq_true c)]
      generalize fst1 m (fun b => eqK (fun i => keyC D (8 + 3 * b) i 0) (fun i => keyC D (8 + 3 * m) i 0)) = b at *
      have ob : isBook (8 + 3 * b) := Or.inr ⟨b, by omega, rfl⟩
      have cr := cmp_eqK.mpr h6
      simp (disch := omega) only [J_add, J_sub, J_mul, J_lt, J_le, J_eq, xbr_true, xbr_false, xbr_pos, xbr_neg, Int.toNat_natCast, all_eq, ex_eq, t_0, q_0_0, q_0_1, q_0_2, q_0_3, q_0_4, q_0_5, q_0_6, q_0_7, q_0_8, q_0_9, i_0_10, p_0_10, i_0_11, p_0_11, i_0_12, p_0_12, t_1, q_1_0, t_3, q_3_0, q_3_1, i_3_2, p_3_2, i_3_3, p_3_3, t_80, q_80_0, t_88, q_88_0, t_90, q_90_0, t_92, q_92_0, q_92_1, q_92_2, i_92_3, p_92_3, i_92_4, p_92_4, t_96, q_96_0, i_96_1, p_96_1, i_96_2, p_96_2, i_96_3, p_96_3, t_100, q_100_0, i_100_1, p_100_1, i_100_2, p_100_2, i_100_3, p_100_3, t_104, q_104_1, q_104_2, q_104_3, q_104_4, q_104_5, q_104_6, q_104_8, q_104_9, q_104_11, q_104_12, q_104_18, q_104_21, q_104_22, q_104_23, q_104_24, q_104_26, q_104_27, q_104_28, q_104_30, q_104_31, i_104_0, p_104_0, i_104_7, p_104_7, i_104_10, p_104_10, i_104_13, p_104_13, i_104_14, p_104_14, i_104_15, p_104_15, i_104_16, p_104_16, i_104_17, p_104_17, i_104_19, p_104_19, i_104_20, p_104_20, i_104_25, p_104_25, i_104_29, p_104_29, a_2, w_2, a_81, w_81, a_89, w_89, a_91, w_91, a_93, w_93, a_94, w_94, a_95, w_95, a_105, w_105, a_106, w_106, a_107, w_107, a_108, w_108, a_109, w_109, a_110, w_110, a_111, w_111, a_112, w_112, a_113, w_113, a_114, w_114, a_115, w_115, a_116, w_116, a_117, w_117, a_118, w_118, a_119, w_119, a_120, w_120, a_121, w_121, a_122, w_122, a_123, w_123, a_124, w_124, gI_lay (t := 3) (o := 3) (k := 3) rfl, hm3, s_of, bkO_nat (show b < 24 by omega), s_draft hm3 (show m ≤ 24 by omega), bkO_nat hm, s_compareBy ob (hB _ ob) om (hB _ om), cr, isB1, true_and]
    · rw [if_neg (by simpa using c)]
      simp (disch := omega) only [J_add, J_sub, J_mul, J_lt, J_le, J_eq, xbr_true, xbr_false, xbr_pos, xbr_neg, Int.toNat_natCast, all_eq, ex_eq, t_0, q_0_0, q_0_1, q_0_2, q_0_3, q_0_4, q_0_5, q_0_6, q_0_7, q_0_8, q_0_9, i_0_10, p_0_10, i_0_11, p_0_11, i_0_12, p_0_12, t_1, q_1_0, t_3, q_3_0, q_3_1, i_3_2, p_3_2, i_3_3, p_3_3, t_80, q_80_0, t_88, q_88_0, t_90, q_90_0, t_92, q_92_0, q_92_1, q_92_2, i_92_3, p_92_3, i_92_4, p_92_4, t_96, q_96_0, i_96_1, p_96_1, i_96_2, p_96_2, i_96_3, p_96_3, t_100, q_100_0, i_100_1, p_100_1, i_100_2, p_100_2, i_100_3, p_100_3, t_104, q_104_1, q_104_2, q_104_3, q_104_4, q_104_5, q_104_6, q_104_8, q_104_9, q_104_11, q_104_12, q_104_18, q_104_21, q_104_22, q_104_23, q_104_24, q_104_26, q_104_27, q_104_28, q_104_30, q_104_31, i_104_0, p_104_0, i_104_7, p_104_7, i_104_10, p_104_10, i_104_13, p_104_13, i_104_14, p_104_14, i_104_15, p_104_15, i_104_16, p_104_16, i_104_17, p_104_17, i_104_19, p_104_19, i_104_20, p_104_20, i_104_25, p_104_25, i_104_29, p_104_29, a_2, w_2, a_81, w_81, a_89, w_89, a_91, w_91, a_93, w_93, a_94, w_94, a_95, w_95, a_105, w_105, a_106, w_106, a_107, w_107, a_108, w_108, a_109, w_109, a_110, w_110, a_111, w_111, a_112, w_112, a_113, w_113, a_114, w_114, a_115, w_115, a_116, w_116, a_117, w_117, a_118, w_118, a_119, w_119, a_120, w_120, a_121, w_121, a_122, w_122, a_123, w_123, a_124, w_124, gI_lay (t := 3) (o := 3) (k := 3) rfl, hm3, isB0, true_and]
theorem tld_congr {κ κ' : Nat → Nat → Int} {kn kn' : Nat → Int} (h : ∀ b, b < m → ∀ i, i < 5 → κ b i = κ' b i) (h2 : ∀ i, i < 5 → kn i = kn' i) : tld κ m kn = tld κ' m kn' := by
  unfold tld
  have : fst1 m (fun b => eqK (κ b) kn) = fst1 m (fun b => eqK (κ' b) kn') := fst1_congr fun b hb => by
    have e : eqK (κ b) kn = true ↔ eqK (κ' b) kn' = true := by
      rw [eqK_iff, eqK_iff]
      constructor
      · intro q i hi; rw [← h b hb i hi, ← h2 i hi]; exact q i hi
      · intro q i hi; rw [h b hb i hi, h2 i hi]; exact q i hi
    cases e1 : eqK (κ b) kn with
    | true => rw [e.mp e1]
    | false =>
      cases e2 : eqK (κ' b) kn' with
      | true => rw [e.mpr e2] at e1; cases e1
      | false => rfl
  rw [this]
theorem s_readEnd (hq : z + 125 ≤ q) (h : TxC C n tx) (hm : m < 24) (hp : p ≤ n) (hm3 : C 3 3 = m) (hB : BooksOk C) (hv : VOk v) :
    ((clE tx p).1 ≠ 0 → FlC z q g C m (clE tx p).1 (clE tx p).2 (fun K => PX5_readEnd q (lay z (prM g z q (8 + 3 * m) (p : Nat) kd0 pl vl bf) (dC C m v sg)) K)) ∧
    ((clE tx p).1 = 0 → tld (fun b i => keyC (dC C m v sg) (8 + 3 * b) i 0) m (fun i => keyC (dC C m v sg) (8 + 3 * m) i 0) = true → FlC z q g C m 5 p (fun K => PX5_readEnd q (lay z (prM g z q (8 + 3 * m) (p : Nat) kd0 pl vl bf) (dC C m v sg)) K)) ∧
    ((clE tx p).1 = 0 → ¬ tld (fun b i => keyC (dC C m v sg) (8 + 3 * b) i 0) m (fun i => keyC (dC C m v sg) (8 + 3 * m) i 0) = true → p < n ∧ ∀ K, PX5_readEnd q (lay z (prM g z q (8 + 3 * m) (p : Nat) kd0 pl vl bf) (dC C m v sg)) K = K (J 1) (lay z (prM g z q (8 + 3 * m) (p + 1 : Nat) kd0 pl vl bf) (up (dC C m v sg) 3 3 ((m + 1 : Nat) : Int)))) := by
  have hn := h.2.1
  have b0 := h.b p
  have d3 : dC C m v sg 3 3 = m := by rw [dC_ne (by omega)]; exact hm3
  have hBd : BooksOk (dC C m v sg) := hB.d hv
  have hk := fun G K => s_hasMark (z := z) (G := G) (K := K) d3 hm hBd
  have e1 : (p : Int) + 1 = ((p + 1 : Nat) : Int) := by omega
  have em : (m : Int) + 1 = ((m + 1 : Nat) : Int) := by omega
  by_cases c : tx p = 59
  · have e : clE tx p = (0, 0) := by unfold clE; rw [if_pos c]
    rw [e]
    refine ⟨fun q => absurd rfl q, fun _ c2 => ?_, fun _ c2 => ⟨b0.2.2 (by omega), fun K => ?_⟩⟩
    · refine FlC.mk hm hv ⟨8 + 3 * m, (p : Nat), vl, bf, sg, fun K => ?_⟩
      unfold PX5_readEnd
      simp (disch := omega) only [J_add, J_sub, J_mul, J_lt, J_le, J_eq, xbr_true, xbr_false, xbr_pos, xbr_neg, Int.toNat_natCast, all_eq, ex_eq, p_T hq, s_pnext hq h.d (show p ≤ 10000 by omega), c, p_r1 hq, hk, if_pos c2, p_i3 hq, s_fail hq, isB0, true_and]
      rfl
    · unfold PX5_readEnd PX2_endDraft
      simp (disch := omega) only [J_add, J_sub, J_mul, J_lt, J_le, J_eq, xbr_true, xbr_false, xbr_pos, xbr_neg, Int.toNat_natCast, all_eq, ex_eq, p_T hq, s_pnext hq h.d (show p ≤ 10000 by omega), c, p_r1 hq, hk, if_neg c2, tS_lay (o := 3) (t := 3) rfl, gI_lay (t := 3) (o := 3) (k := 3) rfl, d3, pF_lay (t := 3) (o := 3) (k := 3) rfl, p_i3 hq, p_p hq pr_x3, e1, em, isB1, true_and]
  · have e : clE tx p = (1, p) := by unfold clE; rw [if_neg c]
    rw [e]
    refine ⟨fun _ => FlC.mk hm hv ⟨8 + 3 * m, (p : Nat), vl, bf, sg, fun K => ?_⟩, fun q => by simp at q, fun q => by simp at q⟩
    unfold PX5_readEnd
    simp (disch := omega) only [J_add, J_sub, J_mul, J_lt, J_le, J_eq, xbr_true, xbr_false, xbr_pos, xbr_neg, Int.toNat_natCast, all_eq, ex_eq, p_T hq, s_pnext hq h.d (show p ≤ 10000 by omega), p_i3 hq, s_fail hq, isB0, true_and]
    rfl
end CLS
