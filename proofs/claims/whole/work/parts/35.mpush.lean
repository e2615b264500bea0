/-! PUSHING: the reference; where a book is put -/
def onC (C : Nat → Nat → Int) (A : Rw) : Nat → Nat → Int := fun a j => if a = 112 ∧ j < 8 then (A.2.2 j : Int) else C a j
theorem onC_other {C : Nat → Nat → Int} {A : Rw} {a j : Nat} (h : a ≠ 112) : onC C A a j = C a j := by unfold onC; rw [if_neg (by omega)]
theorem onC_onC {C : Nat → Nat → Int} {A A' : Rw} : onC (onC C A) A' = onC C A' := by
  funext a j
  unfold onC
  split
  · rfl
  · rfl
theorem onC_110 {C : Nat → Nat → Int} {A : Rw} : onC C A 110 = C 110 := by funext j; exact onC_other (by omega)
theorem onC_109 {C : Nat → Nat → Int} {A : Rw} : onC C A 109 = C 109 := by funext j; exact onC_other (by omega)
/-- the reference's widths are small -/
def SmM (C : Nat → Nat → Int) (nb : Nat) : Prop := nb ≤ 24 ∧ (∀ b, b < nb → 0 ≤ C 109 b ∧ C 109 b ≤ 9) ∧ ∀ s, s < 8 → 0 ≤ C 110 s ∧ C 110 s ≤ 1000
section MP
variable {z : Nat} {g : Mem} {C : Nat → Nat → Int} {nb : Nat} {A : Rw}
theorem RowM.onC {A' : Rw} (h : RowM C A) (e1 : A'.1 = A.1) (e2 : A'.2.1 = A.2.1) : RowM (onC C A') A' := by
  obtain ⟨h1, h2, h3, h4⟩ := h
  refine ⟨by rw [onC_other (by omega), e1]; exact h1, by omega, fun i hi => by rw [onC_other (by omega), e2]; exact h3 i (by omega), fun s hs => ?_⟩
  unfold Jvm.Pilot.COutOfPlaceLaw_law_r2444_d06da6.onC
  rw [if_pos ⟨rfl, hs⟩]
theorem onC_self (h : RowM C A) : onC C A = C := by
  funext a j
  unfold onC
  split
  · rename_i c
    rw [c.1, h.2.2.2 j c.2]
  · rfl
theorem rmM_b (h : SmM C nb) (hA : RwOk A nb) (hl : A.1 ≤ 24) {s : Nat} (hs : s < 8) : -216 ≤ rmA (C 110) (C 109) A s ∧ rmA (C 110) (C 109) A s ≤ 1000 := by
  have h1 := usedA_b hA h.2.1 hs hl
  have h2 := h.2.2 s hs
  unfold rmA
  omega
theorem m_roomS {K : Int32 → Prop} {A' : Rw} (h : RowM C A) (e1 : A'.1 = A.1) (e2 : A'.2.1 = A.2.1) (hA : RwOk A' nb) (hS : SmM C nb) {s : Nat} (hs : s < 8) : PX11_roomOn (ad z 104) (J s) (lay z g (onC C A')) K = K (J (rmA (C 110) (C 109) A' s)) := by
  rw [m_roomOn (h.onC e1 e2) hA hS.1 (by rw [onC_109]; exact hS.2.1) hs, onC_109, onC_110]
theorem onC_mv {s t j : Nat} (hst : s ≠ t) (hs : s < 8) (ht : t < 8) (hj : j < A.2.2 s) : up (up (onC C (mvA A s t j)) 112 s (((A.2.2 s - j : Nat) : Int) - 1)) 112 t (((A.2.2 t + j : Nat) : Int) + 1) = onC C (mvA A s t (j + 1)) := by
  funext a k
  simp only [up, onC, mvA]
  by_cases c : a = 112 ∧ k < 8
  · rw [if_pos c, if_pos c]
    by_cases c1 : k = s
    · subst c1
      rw [if_neg (by omega), if_pos ⟨c.1, rfl⟩, if_pos rfl]; omega
    · by_cases c2 : k = t
      · subst c2
        rw [if_pos ⟨c.1, rfl⟩, if_neg c1, if_pos rfl]; omega
      · rw [if_neg (by omega), if_neg (by omega), if_neg c1, if_neg c2, if_neg c1, if_neg c2]
  · rw [if_neg c, if_neg c, if_neg (by omega), if_neg (by omega)]
theorem onC_s {A' : Rw} {s : Nat} (hs : s < 8) : onC C A' 112 s = A'.2.2 s := by unfold onC; rw [if_pos ⟨rfl, hs⟩]
theorem mv_s {s t j : Nat} : (mvA A s t j).2.2 s = A.2.2 s - j := by show (if s = s then _ else _) = _; rw [if_pos rfl]
theorem mv_t {s t j : Nat} (h : t ≠ s) : (mvA A s t j).2.2 t = A.2.2 t + j := by show (if t = s then _ else _) = _; rw [if_neg h, if_pos rfl]
theorem usedA_all {w : Nat → Int} {s t : Nat} : usedA w (mvA A s t (A.2.2 s)) s = 0 := by
  unfold usedA
  rw [mv_s, Nat.sub_self]
  rfl
theorem m_push8 {K : Int32 → Mem → Prop} {kc2 : (Mem × Int32) → Prop} (h : RowM C A) {A' : Rw} (e1 : A'.1 = A.1) (e2 : A'.2.1 = A.2.1) (hA : RwOk A' nb) (hS : SmM C nb) {s : Nat} (hs : s < 8) : lp (BX11_push_8 K kc2 (ad z 104) (J s)) (lay z g (onC C A')) = (if (relL (C 110) (C 109) s 0 A').1 then kc2 (lay z g (onC C (relL (C 110) (C 109) s 0 A').2), J ((s : Int) + 1)) else K (J 0) (lay z g (onC C (relL (C 110) (C 109) s 0 A').2))) := by
  have hl : A'.1 ≤ 24 := by rw [e1]; exact h.2.1
  unfold relL
  by_cases c7 : s + 1 < 8
  · rw [if_pos c7]
    have hm := fst1_le (A'.2.2 s) (fun j => decide (0 ≤ rmA (C 110) (C 109) (mvA A' s (s + 1) j) s))
    have hlt := fun j => fst1_lt (n := A'.2.2 s) (f := fun j => decide (0 ≤ rmA (C 110) (C 109) (mvA A' s (s + 1) j) s)) (i := j)
    have hat := fst1_at (n := A'.2.2 s) (f := fun j => decide (0 ≤ rmA (C 110) (C 109) (mvA A' s (s + 1) j) s))
    generalize fst1 (A'.2.2 s) (fun j => decide (0 ≤ rmA (C 110) (C 109) (mvA A' s (s + 1) j) s)) = m at *
    have hfin : 0 ≤ rmA (C 110) (C 109) (mvA A' s (s + 1) m) s := by
      rcases Nat.lt_or_ge m (A'.2.2 s) with c | c
      · exact of_decide_eq_true (hat c)
      · have : m = A'.2.2 s := by omega
        rw [this]
        unfold rmA
        rw [usedA_all]
        have := hS.2.2 s hs
        omega
    rw [if_pos (decide_eq_true hfin)]
    have h00 : lay z g (onC C A') = ((fun j : Nat => lay z g (onC C (mvA A' s (s + 1) j))) 0) := by
      show _ = lay z g (onC C (mvA A' s (s + 1) 0))
      rw [mvA_zero]
    rw [h00]
    refine lp_for (fun j : Nat => lay z g (onC C (mvA A' s (s + 1) j))) 0 m _ (by omega) ?_ ?_
    · intro j _ hj kc
      have hAj := hA.mvL (j := j) (by omega) c7
      have hb := rmM_b hS hAj hl hs
      have hf : ¬ 0 ≤ rmA (C 110) (C 109) (mvA A' s (s + 1) j) s := of_decide_eq_false (hlt j hj)
      have x1 : ((s : Int) + 1).toNat = s + 1 := by omega
      have x2 : up (onC C (mvA A' s (s + 1) j)) 112 s (((A'.2.2 s - j : Nat) : Int) - 1) 112 (s + 1) = ((A'.2.2 (s + 1) + j : Nat) : Int) := by
        unfold up
        rw [if_neg (by omega), onC_s c7, mv_t (by omega)]
      unfold BX11_push_8 CX11_push_8
      simp (disch := omega) only [J_add, J_sub, J_mul, J_lt, J_le, J_eq, xbr_true, xbr_false, xbr_pos, xbr_neg, Int.toNat_natCast, all_eq, ex_eq, m_roomS (A' := mvA A' s (s + 1) j) h e1 e2 hAj hS hs, gR_lay (t := 12) (o := 104) (k := 9) (r := 112) rfl, aI_lay (o := 112) (N := 8) rfl, aS_lay (o := 112) (N := 8) rfl, x1, onC_s hs, mv_s, x2]
      rw [onC_mv (by omega) hs c7 (by omega)]
    · intro kc
      have hAj := hA.mvL (j := m) (by omega) c7
      have hb := rmM_b hS hAj hl hs
      unfold BX11_push_8 CX11_push_8
      simp (disch := omega) only [J_add, J_sub, J_mul, J_lt, J_le, J_eq, xbr_true, xbr_false, xbr_pos, xbr_neg, Int.toNat_natCast, all_eq, ex_eq, m_roomS (A' := mvA A' s (s + 1) m) h e1 e2 hAj hS hs]
  · rw [if_neg c7]
    have hb := rmM_b hS hA hl hs
    have rm := fun K => m_roomS (z := z) (g := g) (K := K) (A' := A') h e1 e2 hA hS hs
    refine lp_for (fun _ : Nat => lay z g (onC C A')) 0 0 _ (by omega) (fun j _ hj => by omega) ?_
    intro kc
    unfold BX11_push_8 CX11_push_8
    by_cases c : 0 ≤ rmA (C 110) (C 109) A' s
    · simp (disch := omega) only [J_add, J_sub, J_mul, J_lt, J_le, J_eq, xbr_true, xbr_false, xbr_pos, xbr_neg, Int.toNat_natCast, all_eq, ex_eq, rm]
      simp [c]
    · simp (disch := omega) only [J_add, J_sub, J_mul, J_lt, J_le, J_eq, xbr_true, xbr_false, xbr_pos, xbr_neg, Int.toNat_natCast, all_eq, ex_eq, rm, isB0, true_and]
      simp [c]
theorem m_push {K : Int32 → Mem → Prop} (h : RowM C A) (hA : RwOk A nb) (hS : SmM C nb) {s : Nat} (hs : s ≤ 8) : PX11_push (ad z 104) (J s) (lay z g C) K = K (J (if (pshL (C 110) (C 109) (8 - s) s 0 A).1 then 1 else 0)) (lay z g (onC C (pshL (C 110) (C 109) (8 - s) s 0 A).2)) := by
  unfold PX11_push
  simp (disch := omega) only [J_add, J_sub, J_mul, J_lt, J_le, J_eq, xbr_true, xbr_false, xbr_pos, xbr_neg, Int.toNat_natCast, all_eq, ex_eq, tS_lay (o := 104) (t := 12) rfl]
  have key : ∀ (n s : Nat) (A1 : Rw), s + n = 8 → RwOk A1 nb → A1.1 = A.1 → A1.2.1 = A.2.1 → lp (BX11_push_2 K (ad z 104)) (lay z g (onC C A1), J (s : Int)) = K (J (if (pshL (C 110) (C 109) n s 0 A1).1 then 1 else 0)) (lay z g (onC C (pshL (C 110) (C 109) n s 0 A1).2)) := by
    intro n
    induction n with
    | zero =>
      intro s A1 hs hA1 _ _
      refine lp_for (fun _ : Nat => (lay z g (onC C A1), J (s : Int))) 0 0 _ (by omega) (fun j _ hj => by omega) ?_
      intro kc
      unfold BX11_push_2 CX11_push_2
      simp (disch := omega) only [J_add, J_sub, J_mul, J_lt, J_le, J_eq, xbr_true, xbr_false, xbr_pos, xbr_neg, Int.toNat_natCast, all_eq, ex_eq, isB1, true_and]
      simp [pshL]
    | succ n ih =>
      intro s A1 hs hA1 e1 e2
      obtain ⟨k1, k2, k3⟩ := relL_ok (W := C 110) (w := C 109) (s := s) (due := 0) hA1
      have p8 := fun kc2 => m_push8 (z := z) (g := g) (K := K) (kc2 := kc2) h e1 e2 hA1 hS (s := s) (by omega)
      by_cases c : (relL (C 110) (C 109) s 0 A1).1 = true
      · have hp : pshL (C 110) (C 109) (n + 1) s 0 A1 = pshL (C 110) (C 109) n (s + 1) 0 (relL (C 110) (C 109) s 0 A1).2 := by
          show (if _ then _ else _) = _
          rw [if_pos c]
        rw [hp, ← ih (s + 1) (relL (C 110) (C 109) s 0 A1).2 (by omega) k1 (by rw [k2, e1]) (by rw [k3, e2])]
        refine lp_step (fun kc => ?_)
        unfold BX11_push_2 CX11_push_2
        simp (disch := omega) only [J_add, J_sub, J_mul, J_lt, J_le, J_eq, xbr_true, xbr_false, xbr_pos, xbr_neg, Int.toNat_natCast, all_eq, ex_eq]
        rw [p8, if_pos c]
        rfl
      · have hp : pshL (C 110) (C 109) (n + 1) s 0 A1 = (false, (relL (C 110) (C 109) s 0 A1).2) := by
          show (if _ then _ else _) = _
          rw [if_neg c]
        rw [hp]
        refine lp_for (fun _ : Nat => (lay z g (onC C A1), J (s : Int))) 0 0 _ (by omega) (fun j _ hj => by omega) ?_
        intro kc
        unfold BX11_push_2 CX11_push_2
        simp (disch := omega) only [J_add, J_sub, J_mul, J_lt, J_le, J_eq, xbr_true, xbr_false, xbr_pos, xbr_neg, Int.toNat_natCast, all_eq, ex_eq]
        rw [p8, if_neg c]
        simp
  have h0 := key (8 - s) s A (by omega) hA rfl rfl
  rw [onC_self h] at h0
  exact h0
/-- where a book is put by a reading, and on which shelf -/
def spotA (C : Nat → Nat → Int) (A : Rw) (b : Nat) (k : Int) : Nat := fst1 A.1 (fun i => !aheadC C (A.2.1 i) b k)
def spotS (A : Rw) (i : Nat) : Nat := if A.1 = 0 then 0 else shAt A.2.2 (if A.1 - 1 < i then A.1 - 1 else i)
theorem m_placeBy {K : Int32 → Prop} (h : RowM C A) (hA : RwOk A nb) (hn : nb ≤ 24) (hB : ∀ b, b < nb → BkRel C b) {b : Nat} (hb : b < nb) {k : Int} (h1 : 0 ≤ k) (h2 : k < 5) : PX11_placeBy (ad z 104) (J b) (J k) (lay z g C) K = K (J (spotA C A b k)) := by
  obtain ⟨g1, g2, g3, g4⟩ := h
  unfold PX11_placeBy spotA
  simp (disch := omega) only [J_add, J_sub, J_mul, J_lt, J_le, J_eq, xbr_true, xbr_false, xbr_pos, xbr_neg, Int.toNat_natCast, all_eq, ex_eq, tS_lay (o := 104) (t := 12) rfl]
  have h5 := fst1_le A.1 (fun i => !aheadC C (A.2.1 i) b k)
  refine lp_for (fun i : Nat => J (i : Int)) 0 (fst1 A.1 (fun i => !aheadC C (A.2.1 i) b k)) _ (by omega) ?_ ?_
  · intro i _ hi kc
    have h6 := fst1_lt hi
    have h7 := hA.1 i (by omega)
    have h9 : aheadC C (A.2.1 i) b k = true := by simpa using h6
    unfold BX11_placeBy_2 CX11_placeBy_2
    simp (disch := omega) only [J_add, J_sub, J_mul, J_lt, J_le, J_eq, xbr_true, xbr_false, xbr_pos, xbr_neg, Int.toNat_natCast, all_eq, ex_eq, gI_lay (t := 12) (o := 104) (k := 7) rfl, g1, gR_lay (t := 12) (o := 104) (k := 8) (r := 111) rfl, aI_lay (o := 111) (N := 25) rfl, g3 i (show i < A.1 by omega), m_isAhead (hB _ h7) (hB _ hb), h9, if_true]
    rfl
  · intro kc
    unfold BX11_placeBy_2 CX11_placeBy_2
    by_cases c : fst1 A.1 (fun i => !aheadC C (A.2.1 i) b k) < A.1
    · have h6 := fst1_at c
      generalize fst1 A.1 (fun i => !aheadC C (A.2.1 i) b k) = i at *
      have h7 := hA.1 i (by omega)
      have h9 : aheadC C (A.2.1 i) b k = false := by simpa using h6
      simp (disch := omega) only [J_add, J_sub, J_mul, J_lt, J_le, J_eq, xbr_true, xbr_false, xbr_pos, xbr_neg, Int.toNat_natCast, all_eq, ex_eq, gI_lay (t := 12) (o := 104) (k := 7) rfl, g1, gR_lay (t := 12) (o := 104) (k := 8) (r := 111) rfl, aI_lay (o := 111) (N := 25) rfl, g3 i (show i < A.1 by omega), m_isAhead (hB _ h7) (hB _ hb), h9, Bool.false_eq_true, if_false]
    · simp (disch := omega) only [J_add, J_sub, J_mul, J_lt, J_le, J_eq, xbr_true, xbr_false, xbr_pos, xbr_neg, Int.toNat_natCast, all_eq, ex_eq, gI_lay (t := 12) (o := 104) (k := 7) rfl, g1]
theorem m_shelfBy {K : Int32 → Prop} (h : RowM C A) (hA : RwOk A nb) {i : Nat} (hi : i ≤ A.1) : PX11_shelfBy (ad z 104) (J i) (lay z g C) K = K (J (spotS A i)) := by
  have h' := h
  obtain ⟨g1, g2, g3, g4⟩ := h
  have j30 : ∀ p, p < A.1 → JX11_shelfBy_30 K (lay z g C) (J (p : Int)) (ad z 104) = K (J (shAt A.2.2 p)) := fun p hp => by
    unfold JX11_shelfBy_30
    simp (disch := omega) only [J_add, J_sub, J_mul, J_lt, J_le, J_eq, xbr_true, xbr_false, xbr_pos, xbr_neg, Int.toNat_natCast, all_eq, ex_eq, m_shelfOf h' hA hp]
  unfold PX11_shelfBy spotS
  by_cases c : A.1 = 0
  · simp (disch := omega) only [J_add, J_sub, J_mul, J_lt, J_le, J_eq, xbr_true, xbr_false, xbr_pos, xbr_neg, Int.toNat_natCast, all_eq, ex_eq, tS_lay (o := 104) (t := 12) rfl, gI_lay (t := 12) (o := 104) (k := 7) rfl, g1]
    rw [if_pos c]; rfl
  · rw [if_neg c]
    by_cases c2 : A.1 - 1 < i
    · have e : (A.1 : Int) - 1 = ((A.1 - 1 : Nat) : Int) := by omega
      simp (disch := omega) only [J_add, J_sub, J_mul, J_lt, J_le, J_eq, xbr_true, xbr_false, xbr_pos, xbr_neg, Int.toNat_natCast, all_eq, ex_eq, tS_lay (o := 104) (t := 12) rfl, gI_lay (t := 12) (o := 104) (k := 7) rfl, g1, e]
      rw [j30 _ (by omega), if_pos c2]
    · simp (disch := omega) only [J_add, J_sub, J_mul, J_lt, J_le, J_eq, xbr_true, xbr_false, xbr_pos, xbr_neg, Int.toNat_natCast, all_eq, ex_eq, tS_lay (o := 104) (t := 12) rfl, gI_lay (t := 12) (o := 104) (k := 7) rfl, g1]
      rw [j30 _ (by omega), if_neg c2]
end MP
