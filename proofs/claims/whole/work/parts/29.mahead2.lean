/-! one book AHEAD of another one: the reference answers as the class -/
theorem fs5 (f : Nat → Bool) : fst1 5 f = if f 0 then 0 else if f 1 then 1 else if f 2 then 2 else if f 3 then 3 else if f 4 then 4 else 5 := by
  show (if f 0 then 0 else (if f 1 then 0 else (if f 2 then 0 else (if f 3 then 0 else (if f 4 then 0 else 1) + 1) + 1) + 1) + 1) = _
  cases f 0 <;> cases f 1 <;> cases f 2 <;> cases f 3 <;> cases f 4 <;> rfl
theorem cmpC_eq (C : Nat → Nat → Int) (o o' : Nat) (k : Int) : cmpC C o o' k =
    if keyC C o 0 k = keyC C o' 0 k then (if keyC C o 1 k = keyC C o' 1 k then (if keyC C o 2 k = keyC C o' 2 k then (if keyC C o 3 k = keyC C o' 3 k then (if keyC C o 4 k = keyC C o' 4 k then 0 else if keyC C o 4 k < keyC C o' 4 k then -1 else 1) else if keyC C o 3 k < keyC C o' 3 k then -1 else 1) else if keyC C o 2 k < keyC C o' 2 k then -1 else 1) else if keyC C o 1 k < keyC C o' 1 k then -1 else 1) else if keyC C o 0 k < keyC C o' 0 k then -1 else 1 := by
  unfold cmpC
  rw [fs5]
  by_cases c0 : keyC C o 0 k = keyC C o' 0 k <;> by_cases c1 : keyC C o 1 k = keyC C o' 1 k <;> by_cases c2 : keyC C o 2 k = keyC C o' 2 k <;> by_cases c3 : keyC C o 3 k = keyC C o' 3 k <;> by_cases c4 : keyC C o 4 k = keyC C o' 4 k <;> simp [c0, c1, c2, c3, c4]
/-- the reference's differences, part by part -/
def mdf (C : Nat → Nat → Int) (a b p : Nat) (k : Int) : Int :=
  if p = 0 then (if ptC C a 0 - ptC C b 0 = 0 then (if k = 3 then ptC C a 0 - ptC C b 0 else ptC C a 1 - ptC C b 1) else ptC C a 0 - ptC C b 0)
  else if p = 1 then (if k = 4 then bfD (fun j => ptC C a (2 + j)) (fun j => ptC C b (2 + j)) (C 106 a).toNat (C 106 b).toNat else wholeD (fun j => ptC C a (2 + j)) (C 106 a).toNat - wholeD (fun j => ptC C b (2 + j)) (C 106 b).toNat)
  else if p = 2 then (if k = 1 then wholeD (fun j => ptC C a (6 + j)) (C 107 a).toNat - wholeD (fun j => ptC C b (6 + j)) (C 107 b).toNat else bfD (fun j => ptC C a (6 + j)) (fun j => ptC C b (6 + j)) (C 107 a).toNat (C 107 b).toNat)
  else if p = 3 then (if ptC C a 10 - ptC C b 10 = 0 then (if k = 2 then wholeD (fun j => ptC C a (11 + j)) (C 108 a).toNat - wholeD (fun j => ptC C b (11 + j)) (C 108 b).toNat else bfD (fun j => ptC C a (11 + j)) (fun j => ptC C b (11 + j)) (C 108 a).toNat (C 108 b).toNat) else ptC C a 10 - ptC C b 10)
  else ptC C a 15 - ptC C b 15
theorem filD_r {d : Nat → Int} {n : Nat} (hn : n ≤ 4) (hd : ∀ j, j < 4 → 0 ≤ d j ∧ d j ≤ 9) : 0 ≤ filD d n ∧ filD d n ≤ 50000 := by
  have a0 := hd 0 (by omega)
  have a1 := hd 1 (by omega)
  have a2 := hd 2 (by omega)
  have a3 := hd 3 (by omega)
  rcases n4 hn with rfl | rfl | rfl | rfl | rfl <;> simp [filD, wholeD] <;> omega
theorem bfD_r {d d' : Nat → Int} {n m : Nat} (hn : n ≤ 4) (hm : m ≤ 4) (hd : ∀ j, j < 4 → 0 ≤ d j ∧ d j ≤ 9) (hd' : ∀ j, j < 4 → 0 ≤ d' j ∧ d' j ≤ 9) : -9 ≤ bfD d d' n m ∧ bfD d d' n m ≤ 9 := by
  unfold bfD
  split
  · rename_i h
    have h1 := hd (fst1 (min n m) (fun i => d i != d' i)) (by omega)
    have h2 := hd' (fst1 (min n m) (fun i => d i != d' i)) (by omega)
    omega
  · omega
theorem BkRel.d2 {C : Nat → Nat → Int} {b : Nat} (h : BkRel C b) : ∀ j, j < 4 → 0 ≤ ptC C b (2 + j) ∧ ptC C b (2 + j) ≤ 9 := fun j hj => h.2.2.1 (2 + j) (by omega) (by omega)
theorem BkRel.d6 {C : Nat → Nat → Int} {b : Nat} (h : BkRel C b) : ∀ j, j < 4 → 0 ≤ ptC C b (6 + j) ∧ ptC C b (6 + j) ≤ 9 := fun j hj => h.2.2.1 (6 + j) (by omega) (by omega)
theorem BkRel.d11 {C : Nat → Nat → Int} {b : Nat} (h : BkRel C b) : ∀ j, j < 4 → 0 ≤ ptC C b (11 + j) ∧ ptC C b (11 + j) ≤ 9 := fun j hj => h.2.2.2.2.1 (11 + j) (by omega) (by omega)
theorem mdf_sgn {C : Nat → Nat → Int} {a b p : Nat} {k : Int} (ha : BkRel C a) (hb : BkRel C b) : (mdf C a b p k < 0 ↔ keyC C (8 + 3 * a) p k < keyC C (8 + 3 * b) p k) ∧ (mdf C a b p k = 0 ↔ keyC C (8 + 3 * a) p k = keyC C (8 + 3 * b) p k) := by
  have a2 := ha.d2
  have a6 := ha.d6
  have a11 := ha.d11
  have b2 := hb.d2
  have b6 := hb.d6
  have b11 := hb.d11
  obtain ⟨p1, p2, -, p4, -, p6, p7, p8, p9, p10, e1, e2, e3, e4, e5, e6, e7, e8, e9, e10, e11⟩ := ha
  obtain ⟨q1, q2, -, q4, -, q6, q7, q8, q9, q10, f1, f2, f3, f4, f5, f6, f7, f8, f9, f10, f11⟩ := hb
  have s2 := bfD_sgn (n := (C 106 a).toNat) (m := (C 106 b).toNat) (by omega) (by omega) a2 b2
  have s6 := bfD_sgn (n := (C 107 a).toNat) (m := (C 107 b).toNat) (by omega) (by omega) a6 b6
  have s11 := bfD_sgn (n := (C 108 a).toNat) (m := (C 108 b).toNat) (by omega) (by omega) a11 b11
  have w1 := wholeD_r (n := (C 108 a).toNat) (by omega) a11
  have w2 := wholeD_r (n := (C 108 b).toNat) (by omega) b11
  have g1 := filD_r (n := (C 108 a).toNat) (by omega) a11
  have g2 := filD_r (n := (C 108 b).toNat) (by omega) b11
  unfold mdf keyC
  split
  · rw [e1, e2, f1, f2]
    split <;> split <;> omega
  · split
    · rw [e3, e4, f3, f4]
      split
      · exact s2
      · omega
    · split
      · rw [e5, e6, f5, f6]
        split
        · omega
        · exact s6
      · split
        · rw [e7, e8, e9, f7, f8, f9]
          split
          · split
            · omega
            · obtain ⟨t1, t2⟩ := s11
              constructor
              · rw [t1]; omega
              · rw [t2]; omega
          · split <;> omega
        · rw [e10, f10]; omega
section MB
variable {z : Nat} {g : Mem} {C : Nat → Nat → Int} {K : Int32 → Prop} {a b : Nat} {k : Int}
theorem m_byClass (ha : BkRel C a) (hb : BkRel C b) (ha' : a < 24) (hb' : b < 24) (h1 : 0 ≤ k) (h2 : k < 5) : PX11_byClass (ad z 104) (J a) (J b) (J k) (lay z g C) K = K (J (mdf C a b 0 k)) := by
  obtain ⟨p1, p2, -⟩ := ha
  obtain ⟨q1, q2, -⟩ := hb
  unfold PX11_byClass mdf
  simp (disch := omega) only [J_add, J_sub, J_mul, J_lt, J_le, J_eq, xbr_true, xbr_false, xbr_pos, xbr_neg, Int.toNat_natCast, all_eq, ex_eq, tS_lay (o := 104) (t := 12) rfl, gR_lay (t := 12) (o := 104) (k := 1) (r := 105) rfl, aI_lay (o := 105) (N := 384) rfl]
  rw [show (16 * (a : Int)).toNat = 16 * a + 0 by omega, show (16 * (b : Int)).toNat = 16 * b + 0 by omega, show (16 * (a : Int) + 1).toNat = 16 * a + 1 by omega, show (16 * (b : Int) + 1).toNat = 16 * b + 1 by omega]
  unfold ptC at *
  by_cases c : C 105 (16 * a + 0) - C 105 (16 * b + 0) = 0
  · by_cases c2 : k = 3
    · simp (disch := omega) only [J_add, J_sub, J_mul, J_lt, J_le, J_eq, xbr_true, xbr_false, xbr_pos, xbr_neg, Int.toNat_natCast, all_eq, ex_eq]
      rw [if_pos trivial, if_pos c, if_pos c2]
    · simp (disch := omega) only [J_add, J_sub, J_mul, J_lt, J_le, J_eq, xbr_true, xbr_false, xbr_pos, xbr_neg, Int.toNat_natCast, all_eq, ex_eq]
      rw [if_pos trivial, if_pos c, if_neg c2]
  · simp (disch := omega) only [J_add, J_sub, J_mul, J_lt, J_le, J_eq, xbr_true, xbr_false, xbr_pos, xbr_neg, Int.toNat_natCast, all_eq, ex_eq]
    rw [if_pos trivial, if_neg c]
theorem m_wh {d n : Nat} {D : Int} (hD : D = (d : Int)) (hb' : b < 24) (hd : d + 4 ≤ 16) (hn : n ≤ 4) : PX11_whole (ad z 105) (J (16 * (b : Int) + D)) (J n) (lay z g C) K = K (J (wholeD (fun j => ptC C b (d + j)) n)) := by
  have e : (16 * (b : Int) + D) = ((16 * b + d : Nat) : Int) := by omega
  rw [e, m_whole (by omega)]
  simp only [ptC, Nat.add_assoc]
theorem m_bf {d n m : Nat} {D : Int} (hD : D = (d : Int)) (ha' : a < 24) (hb' : b < 24) (hd : d + 4 ≤ 16) (hn : n ≤ 4) (hm : m ≤ 4) (ha : ∀ j, j < 4 → 0 ≤ ptC C a (d + j) ∧ ptC C a (d + j) ≤ 9) (hb : ∀ j, j < 4 → 0 ≤ ptC C b (d + j) ∧ ptC C b (d + j) ≤ 9) :
    PX11_byFigures (ad z 104) (J (16 * (a : Int) + D)) (J n) (J (16 * (b : Int) + D)) (J m) (lay z g C) K = K (J (bfD (fun j => ptC C a (d + j)) (fun j => ptC C b (d + j)) n m)) := by
  have e : (16 * (a : Int) + D) = ((16 * a + d : Nat) : Int) := by omega
  have e' : (16 * (b : Int) + D) = ((16 * b + d : Nat) : Int) := by omega
  unfold ptC at ha hb
  rw [e, e', m_byFigures (by omega) (by omega) hn hm (by intro j hj; have := ha j hj; rw [← Nat.add_assoc] at this; exact this) (by intro j hj; have := hb j hj; rw [← Nat.add_assoc] at this; exact this)]
  simp only [ptC, Nat.add_assoc]
theorem m_byNumber (ha : BkRel C a) (hb : BkRel C b) (ha' : a < 24) (hb' : b < 24) (h1 : 0 ≤ k) (h2 : k < 5) : PX11_byNumber (ad z 104) (J a) (J b) (J k) (lay z g C) K = K (J (mdf C a b 1 k)) := by
  have a2 := ha.d2
  have b2 := hb.d2
  obtain ⟨-, -, -, -, -, -, p7, -⟩ := ha
  obtain ⟨-, -, -, -, -, -, q7, -⟩ := hb
  obtain ⟨n, en⟩ : ∃ n : Nat, C 106 a = n := ⟨(C 106 a).toNat, by omega⟩
  obtain ⟨m, em⟩ : ∃ n : Nat, C 106 b = n := ⟨(C 106 b).toNat, by omega⟩
  have w1 := fun K => m_wh (z := z) (g := g) (C := C) (K := K) (d := 2) (D := 2) (n := n) rfl ha' (by omega) (by omega)
  have w2 := fun K => m_wh (z := z) (g := g) (C := C) (K := K) (d := 2) (D := 2) (n := m) rfl hb' (by omega) (by omega)
  have w3 := fun K => m_bf (z := z) (g := g) (C := C) (K := K) (d := 2) (D := 2) (n := n) (m := m) rfl ha' hb' (by omega) (by omega) (by omega) a2 b2
  unfold PX11_byNumber mdf
  by_cases c : k = 4
  · simp (disch := omega) only [J_add, J_sub, J_mul, J_lt, J_le, J_eq, xbr_true, xbr_false, xbr_pos, xbr_neg, Int.toNat_natCast, all_eq, ex_eq, tS_lay (o := 104) (t := 12) rfl, gR_lay (t := 12) (o := 104) (k := 2) (r := 106) rfl, aI_lay (o := 106) (N := 24) rfl, en, em]
    simp [c, w3, en, em]
  · simp (disch := omega) only [J_add, J_sub, J_mul, J_lt, J_le, J_eq, xbr_true, xbr_false, xbr_pos, xbr_neg, Int.toNat_natCast, all_eq, ex_eq, tS_lay (o := 104) (t := 12) rfl, gR_lay (t := 12) (o := 104) (k := 2) (r := 106) rfl, gR_lay (t := 12) (o := 104) (k := 1) (r := 105) rfl, aI_lay (o := 106) (N := 24) rfl, en, em]
    simp [c, w1, w2, en, em, J_sub]
theorem m_byDecimals (ha : BkRel C a) (hb : BkRel C b) (ha' : a < 24) (hb' : b < 24) (h1 : 0 ≤ k) (h2 : k < 5) : PX11_byDecimals (ad z 104) (J a) (J b) (J k) (lay z g C) K = K (J (mdf C a b 2 k)) := by
  have a2 := ha.d6
  have b2 := hb.d6
  obtain ⟨-, -, -, -, -, -, -, p7, -⟩ := ha
  obtain ⟨-, -, -, -, -, -, -, q7, -⟩ := hb
  obtain ⟨n, en⟩ : ∃ n : Nat, C 107 a = n := ⟨(C 107 a).toNat, by omega⟩
  obtain ⟨m, em⟩ : ∃ n : Nat, C 107 b = n := ⟨(C 107 b).toNat, by omega⟩
  have w1 := fun K => m_wh (z := z) (g := g) (C := C) (K := K) (d := 6) (D := 6) (n := n) rfl ha' (by omega) (by omega)
  have w2 := fun K => m_wh (z := z) (g := g) (C := C) (K := K) (d := 6) (D := 6) (n := m) rfl hb' (by omega) (by omega)
  have w3 := fun K => m_bf (z := z) (g := g) (C := C) (K := K) (d := 6) (D := 6) (n := n) (m := m) rfl ha' hb' (by omega) (by omega) (by omega) a2 b2
  unfold PX11_byDecimals mdf
  by_cases c : k = 1
  · simp (disch := omega) only [J_add, J_sub, J_mul, J_lt, J_le, J_eq, xbr_true, xbr_false, xbr_pos, xbr_neg, Int.toNat_natCast, all_eq, ex_eq, tS_lay (o := 104) (t := 12) rfl, gR_lay (t := 12) (o := 104) (k := 3) (r := 107) rfl, gR_lay (t := 12) (o := 104) (k := 1) (r := 105) rfl, aI_lay (o := 107) (N := 24) rfl, en, em]
    simp [c, w1, w2, en, em, J_sub]
  · simp (disch := omega) only [J_add, J_sub, J_mul, J_lt, J_le, J_eq, xbr_true, xbr_false, xbr_pos, xbr_neg, Int.toNat_natCast, all_eq, ex_eq, tS_lay (o := 104) (t := 12) rfl, gR_lay (t := 12) (o := 104) (k := 3) (r := 107) rfl, aI_lay (o := 107) (N := 24) rfl, en, em]
    simp [c, w3, en, em]
theorem m_byCutter (ha : BkRel C a) (hb : BkRel C b) (ha' : a < 24) (hb' : b < 24) (h1 : 0 ≤ k) (h2 : k < 5) : PX11_byCutter (ad z 104) (J a) (J b) (J k) (lay z g C) K = K (J (mdf C a b 3 k)) := by
  have a2 := ha.d11
  have b2 := hb.d11
  obtain ⟨-, -, -, p4, -, -, -, -, p7, -⟩ := ha
  obtain ⟨-, -, -, q4, -, -, -, -, q7, -⟩ := hb
  obtain ⟨n, en⟩ : ∃ n : Nat, C 108 a = n := ⟨(C 108 a).toNat, by omega⟩
  obtain ⟨m, em⟩ : ∃ n : Nat, C 108 b = n := ⟨(C 108 b).toNat, by omega⟩
  have w1 := fun K => m_wh (z := z) (g := g) (C := C) (K := K) (d := 11) (D := 11) (n := n) rfl ha' (by omega) (by omega)
  have w2 := fun K => m_wh (z := z) (g := g) (C := C) (K := K) (d := 11) (D := 11) (n := m) rfl hb' (by omega) (by omega)
  have w3 := fun K => m_bf (z := z) (g := g) (C := C) (K := K) (d := 11) (D := 11) (n := n) (m := m) rfl ha' hb' (by omega) (by omega) (by omega) a2 b2
  have e1 : (16 * (a : Int) + 10).toNat = 16 * a + 10 := by omega
  have e2 : (16 * (b : Int) + 10).toNat = 16 * b + 10 := by omega
  unfold PX11_byCutter mdf
  unfold ptC at p4 q4
  by_cases c : ptC C a 10 - ptC C b 10 = 0
  · by_cases c2 : k = 2
    · unfold ptC at c
      simp (disch := omega) only [J_add, J_sub, J_mul, J_lt, J_le, J_eq, xbr_true, xbr_false, xbr_pos, xbr_neg, Int.toNat_natCast, all_eq, ex_eq, tS_lay (o := 104) (t := 12) rfl, gR_lay (t := 12) (o := 104) (k := 4) (r := 108) rfl, gR_lay (t := 12) (o := 104) (k := 1) (r := 105) rfl, aI_lay (o := 108) (N := 24) rfl, aI_lay (o := 105) (N := 384) rfl, en, em, e1, e2]
      simp [c, c2, w1, w2, en, em, J_sub, ptC]
    · unfold ptC at c
      simp (disch := omega) only [J_add, J_sub, J_mul, J_lt, J_le, J_eq, xbr_true, xbr_false, xbr_pos, xbr_neg, Int.toNat_natCast, all_eq, ex_eq, tS_lay (o := 104) (t := 12) rfl, gR_lay (t := 12) (o := 104) (k := 4) (r := 108) rfl, gR_lay (t := 12) (o := 104) (k := 1) (r := 105) rfl, aI_lay (o := 108) (N := 24) rfl, aI_lay (o := 105) (N := 384) rfl, en, em, e1, e2]
      simp [c, c2, w3, en, em, ptC]
  · unfold ptC at c
    simp (disch := omega) only [J_add, J_sub, J_mul, J_lt, J_le, J_eq, xbr_true, xbr_false, xbr_pos, xbr_neg, Int.toNat_natCast, all_eq, ex_eq, tS_lay (o := 104) (t := 12) rfl, gR_lay (t := 12) (o := 104) (k := 4) (r := 108) rfl, gR_lay (t := 12) (o := 104) (k := 1) (r := 105) rfl, aI_lay (o := 108) (N := 24) rfl, aI_lay (o := 105) (N := 384) rfl, en, em, e1, e2]
    simp [c, ptC]
theorem cmp_sgn (ha : BkRel C a) (hb : BkRel C b) (ha' : a < 24) (hb' : b < 24) : aheadC C a b k =
    (if mdf C a b 0 k = 0 then (if mdf C a b 1 k = 0 then (if mdf C a b 2 k = 0 then (if mdf C a b 3 k = 0 then (if mdf C a b 4 k = 0 then decide (a < b) else decide (mdf C a b 4 k < 0)) else decide (mdf C a b 3 k < 0)) else decide (mdf C a b 2 k < 0)) else decide (mdf C a b 1 k < 0)) else decide (mdf C a b 0 k < 0)) := by
  have s0 := mdf_sgn (p := 0) (k := k) ha hb
  have s1 := mdf_sgn (p := 1) (k := k) ha hb
  have s2 := mdf_sgn (p := 2) (k := k) ha hb
  have s3 := mdf_sgn (p := 3) (k := k) ha hb
  have s4 := mdf_sgn (p := 4) (k := k) ha hb
  unfold aheadC
  rw [bkO_nat ha', bkO_nat hb', cmpC_eq]
  generalize keyC C (8 + 3 * a) 0 k = x0 at *
  generalize keyC C (8 + 3 * a) 1 k = x1 at *
  generalize keyC C (8 + 3 * a) 2 k = x2 at *
  generalize keyC C (8 + 3 * a) 3 k = x3 at *
  generalize keyC C (8 + 3 * a) 4 k = x4 at *
  generalize keyC C (8 + 3 * b) 0 k = y0 at *
  generalize keyC C (8 + 3 * b) 1 k = y1 at *
  generalize keyC C (8 + 3 * b) 2 k = y2 at *
  generalize keyC C (8 + 3 * b) 3 k = y3 at *
  generalize keyC C (8 + 3 * b) 4 k = y4 at *
  generalize mdf C a b 0 k = d0 at *
  generalize mdf C a b 1 k = d1 at *
  generalize mdf C a b 2 k = d2 at *
  generalize mdf C a b 3 k = d3 at *
  generalize mdf C a b 4 k = d4 at *
  have fin : ∀ {d x y : Int}, (d < 0 ↔ x < y) ∧ (d = 0 ↔ x = y) → ¬ d = 0 → (if (if x < y then (-1 : Int) else 1) = 0 then decide ((a : Int) < b) else decide ((if x < y then (-1 : Int) else 1) < 0)) = decide (d < 0) := by
    intro d x y hs hd
    by_cases c : x < y
    · have : d < 0 := hs.1.mpr c
      simp [c, this]
    · have : ¬ d < 0 := fun q => c (hs.1.mp q)
      simp [c, this]
  by_cases c0 : d0 = 0
  · rw [if_pos (s0.2.mp c0), if_pos c0]
    by_cases c1 : d1 = 0
    · rw [if_pos (s1.2.mp c1), if_pos c1]
      by_cases c2 : d2 = 0
      · rw [if_pos (s2.2.mp c2), if_pos c2]
        by_cases c3 : d3 = 0
        · rw [if_pos (s3.2.mp c3), if_pos c3]
          by_cases c4 : d4 = 0
          · rw [if_pos (s4.2.mp c4), if_pos c4]
            simp
          · rw [if_neg (fun q => c4 (s4.2.mpr q)), if_neg c4]
            exact fin s4 c4
        · rw [if_neg (fun q => c3 (s3.2.mpr q)), if_neg c3]
          exact fin s3 c3
      · rw [if_neg (fun q => c2 (s2.2.mpr q)), if_neg c2]
        exact fin s2 c2
    · rw [if_neg (fun q => c1 (s1.2.mpr q)), if_neg c1]
      exact fin s1 c1
  · rw [if_neg (fun q => c0 (s0.2.mpr q)), if_neg c0]
    exact fin s0 c0
theorem mdf_r (ha : BkRel C a) (hb : BkRel C b) {p : Nat} : -10000 ≤ mdf C a b p k ∧ mdf C a b p k ≤ 10000 := by
  have a2 := ha.d2
  have a6 := ha.d6
  have a11 := ha.d11
  have b2 := hb.d2
  have b6 := hb.d6
  have b11 := hb.d11
  obtain ⟨p1, p2, -, p4, -, p6, p7, p8, p9, p10, -⟩ := ha
  obtain ⟨q1, q2, -, q4, -, q6, q7, q8, q9, q10, -⟩ := hb
  have s2 := bfD_r (n := (C 106 a).toNat) (m := (C 106 b).toNat) (by omega) (by omega) a2 b2
  have s6 := bfD_r (n := (C 107 a).toNat) (m := (C 107 b).toNat) (by omega) (by omega) a6 b6
  have s11 := bfD_r (n := (C 108 a).toNat) (m := (C 108 b).toNat) (by omega) (by omega) a11 b11
  have w1 := wholeD_r (n := (C 108 a).toNat) (by omega) a11
  have w2 := wholeD_r (n := (C 108 b).toNat) (by omega) b11
  have w3 := wholeD_r (n := (C 107 a).toNat) (by omega) a6
  have w4 := wholeD_r (n := (C 107 b).toNat) (by omega) b6
  have w5 := wholeD_r (n := (C 106 a).toNat) (by omega) a2
  have w6 := wholeD_r (n := (C 106 b).toNat) (by omega) b2
  unfold mdf
  repeat' split
  all_goals omega
theorem m_isAhead (ha : BkRel C a) (hb : BkRel C b) (ha' : a < 24) (hb' : b < 24) (h1 : 0 ≤ k) (h2 : k < 5) : PX11_isAhead (ad z 104) (J a) (J b) (J k) (lay z g C) K = K (J (if aheadC C a b k then 1 else 0)) := by
  have r0 := mdf_r (k := k) (p := 0) ha hb
  have r1 := mdf_r (k := k) (p := 1) ha hb
  have r2 := mdf_r (k := k) (p := 2) ha hb
  have r3 := mdf_r (k := k) (p := 3) ha hb
  have r4 := mdf_r (k := k) (p := 4) ha hb
  have e1 : (16 * (a : Int) + 15).toNat = 16 * a + 15 := by omega
  have e2 : (16 * (b : Int) + 15).toNat = 16 * b + 15 := by omega
  have e4 : mdf C a b 4 k = C 105 (16 * a + 15) - C 105 (16 * b + 15) := by simp [mdf, ptC]
  have j101 : ∀ v : Int, -10000 ≤ v → v ≤ 10000 → JX11_isAhead_101 K (lay z g C) (J a) (J b) (J v) = K (J (if (if v = 0 then decide (a < b) else decide (v < 0)) = true then 1 else 0)) := by
    intro v v1 v2
    unfold JX11_isAhead_101
    by_cases c : v = 0
    · by_cases c2 : a < b
      · simp (disch := omega) only [J_add, J_sub, J_mul, J_lt, J_le, J_eq, xbr_true, xbr_false, xbr_pos, xbr_neg, Int.toNat_natCast, all_eq, ex_eq, isB0, isB1, true_and]
        simp [c, c2]
      · simp (disch := omega) only [J_add, J_sub, J_mul, J_lt, J_le, J_eq, xbr_true, xbr_false, xbr_pos, xbr_neg, Int.toNat_natCast, all_eq, ex_eq, isB0, isB1, true_and]
        simp [c, c2]
    · by_cases c2 : v < 0
      · simp (disch := omega) only [J_add, J_sub, J_mul, J_lt, J_le, J_eq, xbr_true, xbr_false, xbr_pos, xbr_neg, Int.toNat_natCast, all_eq, ex_eq, isB0, isB1, true_and]
        simp [c, c2]
      · simp (disch := omega) only [J_add, J_sub, J_mul, J_lt, J_le, J_eq, xbr_true, xbr_false, xbr_pos, xbr_neg, Int.toNat_natCast, all_eq, ex_eq, isB0, isB1, true_and]
        simp [c, c2]
  have j64 : ∀ v : Int, -10000 ≤ v → v ≤ 10000 → JX11_isAhead_64 K (lay z g C) (ad z 104) (J a) (J b) (J v) = K (J (if (if v = 0 then (if mdf C a b 4 k = 0 then decide (a < b) else decide (mdf C a b 4 k < 0)) else decide (v < 0)) = true then 1 else 0)) := by
    intro v v1 v2
    unfold JX11_isAhead_64
    by_cases c : v = 0
    · simp (disch := omega) only [J_add, J_sub, J_mul, J_lt, J_le, J_eq, xbr_true, xbr_false, xbr_pos, xbr_neg, Int.toNat_natCast, all_eq, ex_eq, gR_lay (t := 12) (o := 104) (k := 1) (r := 105) rfl, aI_lay (o := 105) (N := 384) rfl, e1, e2]
      rw [← e4, j101 _ r4.1 r4.2, if_pos c]
    · simp (disch := omega) only [J_add, J_sub, J_mul, J_lt, J_le, J_eq, xbr_true, xbr_false, xbr_pos, xbr_neg, Int.toNat_natCast, all_eq, ex_eq, j101]
      rw [if_neg c, if_neg c]
  have j45 : ∀ v : Int, -10000 ≤ v → v ≤ 10000 → JX11_isAhead_45 K (lay z g C) (ad z 104) (J a) (J b) (J k) (J v) = K (J (if (if v = 0 then (if mdf C a b 3 k = 0 then (if mdf C a b 4 k = 0 then decide (a < b) else decide (mdf C a b 4 k < 0)) else decide (mdf C a b 3 k < 0)) else decide (v < 0)) = true then 1 else 0)) := by
    intro v v1 v2
    unfold JX11_isAhead_45
    by_cases c : v = 0
    · simp (disch := omega) only [J_add, J_sub, J_mul, J_lt, J_le, J_eq, xbr_true, xbr_false, xbr_pos, xbr_neg, Int.toNat_natCast, all_eq, ex_eq, m_byCutter ha hb ha' hb' h1 h2]
      rw [j64 _ r3.1 r3.2, if_pos c]
    · simp (disch := omega) only [J_add, J_sub, J_mul, J_lt, J_le, J_eq, xbr_true, xbr_false, xbr_pos, xbr_neg, Int.toNat_natCast, all_eq, ex_eq, j64]
      rw [if_neg c, if_neg c]
  have j26 : ∀ v : Int, -10000 ≤ v → v ≤ 10000 → JX11_isAhead_26 K (lay z g C) (ad z 104) (J a) (J b) (J k) (J v) = K (J (if (if v = 0 then (if mdf C a b 2 k = 0 then (if mdf C a b 3 k = 0 then (if mdf C a b 4 k = 0 then decide (a < b) else decide (mdf C a b 4 k < 0)) else decide (mdf C a b 3 k < 0)) else decide (mdf C a b 2 k < 0)) else decide (v < 0)) = true then 1 else 0)) := by
    intro v v1 v2
    unfold JX11_isAhead_26
    by_cases c : v = 0
    · simp (disch := omega) only [J_add, J_sub, J_mul, J_lt, J_le, J_eq, xbr_true, xbr_false, xbr_pos, xbr_neg, Int.toNat_natCast, all_eq, ex_eq, m_byDecimals ha hb ha' hb' h1 h2]
      rw [j45 _ r2.1 r2.2, if_pos c]
    · simp (disch := omega) only [J_add, J_sub, J_mul, J_lt, J_le, J_eq, xbr_true, xbr_false, xbr_pos, xbr_neg, Int.toNat_natCast, all_eq, ex_eq, j45]
      rw [if_neg c, if_neg c]
  rw [cmp_sgn ha hb ha' hb']
  unfold PX11_isAhead
  by_cases c : mdf C a b 0 k = 0
  · simp (disch := omega) only [J_add, J_sub, J_mul, J_lt, J_le, J_eq, xbr_true, xbr_false, xbr_pos, xbr_neg, Int.toNat_natCast, all_eq, ex_eq, tS_lay (o := 104) (t := 12) rfl, m_byClass ha hb ha' hb' h1 h2, m_byNumber ha hb ha' hb' h1 h2]
    rw [j26 _ r1.1 r1.2, if_pos c]
  · simp (disch := omega) only [J_add, J_sub, J_mul, J_lt, J_le, J_eq, xbr_true, xbr_false, xbr_pos, xbr_neg, Int.toNat_natCast, all_eq, ex_eq, tS_lay (o := 104) (t := 12) rfl, m_byClass ha hb ha' hb' h1 h2]
    rw [j26 _ r0.1 r0.2, if_neg c, if_neg c]
end MB
