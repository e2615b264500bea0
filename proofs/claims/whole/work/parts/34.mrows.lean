/-! ROWS of the reference -/
def RowM (C : Nat → Nat → Int) (A : Rw) : Prop := C 104 7 = A.1 ∧ A.1 ≤ 24 ∧ (∀ i, i < A.1 → C 111 i = A.2.1 i) ∧ ∀ s, s < 8 → C 112 s = A.2.2 s
section MR
variable {z : Nat} {g : Mem} {C : Nat → Nat → Int} {nb : Nat} {A : Rw} {K : Int32 → Prop}
theorem m_placeOf (h : RowM C A) (hA : RwOk A nb) (hn : nb ≤ 24) {b : Nat} (hb : b < 24) : PX11_placeOf (ad z 104) (J b) (lay z g C) K = K (J (if idx A b < A.1 then (idx A b : Int) else -1)) := by
  obtain ⟨h1, h2, h3, h4⟩ := h
  have hle := fst1_le A.1 (fun i => A.2.1 i == b)
  unfold PX11_placeOf
  simp (disch := omega) only [J_add, J_sub, J_mul, J_lt, J_le, J_eq, xbr_true, xbr_false, xbr_pos, xbr_neg, Int.toNat_natCast, all_eq, ex_eq, tS_lay (o := 104) (t := 12) rfl]
  have h00 : (J (-1), J 0) = ((fun i : Nat => (J (if idx A b < i then (idx A b : Int) else -1), J (i : Int))) 0) := by simp
  rw [h00]
  refine lp_for (fun i : Nat => (J (if idx A b < i then (idx A b : Int) else -1), J (i : Int))) 0 A.1 _ (by omega) ?_ ?_
  · intro i _ hi kc
    have h5 := h3 i hi
    have h6 := hA.1 i hi
    unfold BX11_placeOf_4 CX11_placeOf_4
    simp (disch := omega) only [J_add, J_sub, J_mul, J_lt, J_le, J_eq, xbr_true, xbr_false, xbr_pos, xbr_neg, Int.toNat_natCast, all_eq, ex_eq, gI_lay (t := 12) (o := 104) (k := 7) rfl, h1, gR_lay (t := 12) (o := 104) (k := 8) (r := 111) rfl, aI_lay (o := 111) (N := 25) rfl, h5]
    by_cases c : A.2.1 i = b
    · have e : idx A b = i := by rw [← c]; exact idx_of hA hi
      simp (disch := omega) only [J_add, J_sub, J_mul, J_lt, J_le, J_eq, xbr_true, xbr_false, xbr_pos, xbr_neg, Int.toNat_natCast, all_eq, ex_eq]
      rw [e, if_pos (by omega)]
      rfl
    · have e : idx A b ≠ i := fun q => c (by rw [← q]; exact idx_at (by omega))
      simp (disch := omega) only [J_add, J_sub, J_mul, J_lt, J_le, J_eq, xbr_true, xbr_false, xbr_pos, xbr_neg, Int.toNat_natCast, all_eq, ex_eq]
      show kc (J (if idx A b < i then (idx A b : Int) else -1), _) = kc (J (if idx A b < i + 1 then (idx A b : Int) else -1), _)
      by_cases c2 : idx A b < i
      · rw [if_pos c2, if_pos (by omega)]; rfl
      · rw [if_neg c2, if_neg (by omega)]; rfl
  · intro kc
    unfold BX11_placeOf_4 CX11_placeOf_4
    simp (disch := omega) only [J_add, J_sub, J_mul, J_lt, J_le, J_eq, xbr_true, xbr_false, xbr_pos, xbr_neg, Int.toNat_natCast, all_eq, ex_eq, gI_lay (t := 12) (o := 104) (k := 7) rfl, h1]
theorem on_le (hA : RwOk A nb) {s : Nat} (hs : s ≤ 8) : sumN A.2.2 s ≤ A.1 := by rw [← hA.2.2]; exact sumN_mono hs
theorem m_firstOf (h : RowM C A) (hA : RwOk A nb) {s : Nat} (hs : s ≤ 8) : PX11_firstOf (ad z 104) (J s) (lay z g C) K = K (J (sumN A.2.2 s)) := by
  obtain ⟨h1, h2, h3, h4⟩ := h
  unfold PX11_firstOf
  simp (disch := omega) only [J_add, J_sub, J_mul, J_lt, J_le, J_eq, xbr_true, xbr_false, xbr_pos, xbr_neg, Int.toNat_natCast, all_eq, ex_eq, tS_lay (o := 104) (t := 12) rfl]
  refine lp_for (fun i : Nat => (J (sumN A.2.2 i : Nat), J (i : Int))) 0 s _ (by omega) ?_ ?_
  · intro i _ hi kc
    unfold BX11_firstOf_4 CX11_firstOf_4
    simp (disch := omega) only [J_add, J_sub, J_mul, J_lt, J_le, J_eq, xbr_true, xbr_false, xbr_pos, xbr_neg, Int.toNat_natCast, all_eq, ex_eq, gR_lay (t := 12) (o := 104) (k := 9) (r := 112) rfl, aI_lay (o := 112) (N := 8) rfl, h4 i (by omega)]
    rfl
  · intro kc
    unfold BX11_firstOf_4 CX11_firstOf_4
    simp (disch := omega) only [J_add, J_sub, J_mul, J_lt, J_le, J_eq, xbr_true, xbr_false, xbr_pos, xbr_neg, Int.toNat_natCast, all_eq, ex_eq]
theorem m_shelfOf (h : RowM C A) (hA : RwOk A nb) {i : Nat} (hi : i < A.1) : PX11_shelfOf (ad z 104) (J i) (lay z g C) K = K (J (shAt A.2.2 i)) := by
  obtain ⟨h1, h2, h3, h4⟩ := h
  have hs := shAt_lt (on := A.2.2) (i := i) (by rw [hA.2.2]; exact hi)
  have hb := (shAt_iff (on := A.2.2) (i := i) hs).mp rfl
  have hle := fun s hs => on_le hA (s := s) hs
  unfold PX11_shelfOf
  simp (disch := omega) only [J_add, J_sub, J_mul, J_lt, J_le, J_eq, xbr_true, xbr_false, xbr_pos, xbr_neg, Int.toNat_natCast, all_eq, ex_eq, tS_lay (o := 104) (t := 12) rfl, gR_lay (t := 12) (o := 104) (k := 9) (r := 112) rfl, aI_lay (o := 112) (N := 8) rfl]
  rw [show (0 : Int).toNat = 0 from rfl, h4 0 (by omega)]
  have h00 : (J 0, J (A.2.2 0 : Int)) = ((fun j : Nat => (J (j : Int), J (sumN A.2.2 (j + 1) : Nat))) 0) := by simp [sumN]
  rw [h00]
  refine lp_for (fun j : Nat => (J (j : Int), J (sumN A.2.2 (j + 1) : Nat))) 0 (shAt A.2.2 i) _ (by omega) ?_ ?_
  · intro j _ hj kc
    have l1 := hle (j + 1) (by omega)
    have m1 := sumN_mono (f := A.2.2) (show j + 1 ≤ shAt A.2.2 i by omega)
    have e1 : ((j : Int) + 1).toNat = j + 1 := by omega
    unfold BX11_shelfOf_9 CX11_shelfOf_9
    simp (disch := omega) only [J_add, J_sub, J_mul, J_lt, J_le, J_eq, xbr_true, xbr_false, xbr_pos, xbr_neg, Int.toNat_natCast, all_eq, ex_eq, gR_lay (t := 12) (o := 104) (k := 9) (r := 112) rfl, aI_lay (o := 112) (N := 8) rfl, e1, h4 (j + 1) (by omega)]
    rfl
  · intro kc
    have l1 := hle (shAt A.2.2 i + 1) (by omega)
    unfold BX11_shelfOf_9 CX11_shelfOf_9
    simp (disch := omega) only [J_add, J_sub, J_mul, J_lt, J_le, J_eq, xbr_true, xbr_false, xbr_pos, xbr_neg, Int.toNat_natCast, all_eq, ex_eq]
theorem m_usedOn (h : RowM C A) (hA : RwOk A nb) (hn : nb ≤ 24) (hw : ∀ b, b < nb → 0 ≤ C 109 b ∧ C 109 b ≤ 9) {s : Nat} (hs : s < 8) : PX11_usedOn (ad z 104) (J s) (lay z g C) K = K (J (usedA (C 109) A s)) := by
  have h' := h
  obtain ⟨h1, h2, h3, h4⟩ := h
  have hle := on_le hA (s := s + 1) (by omega)
  have e0 : sumN A.2.2 (s + 1) = sumN A.2.2 s + A.2.2 s := rfl
  unfold PX11_usedOn
  simp (disch := omega) only [J_add, J_sub, J_mul, J_lt, J_le, J_eq, xbr_true, xbr_false, xbr_pos, xbr_neg, Int.toNat_natCast, all_eq, ex_eq, tS_lay (o := 104) (t := 12) rfl, m_firstOf h' hA (show s ≤ 8 by omega)]
  have h00 : (J 0, J (sumN A.2.2 s : Nat)) = ((fun i : Nat => (J (sumZ (fun j => C 109 (A.2.1 (sumN A.2.2 s + j))) i), J ((sumN A.2.2 s + i : Nat) : Int))) 0) := by simp [sumZ]
  rw [h00]
  refine lp_for (fun i : Nat => (J (sumZ (fun j => C 109 (A.2.1 (sumN A.2.2 s + j))) i), J ((sumN A.2.2 s + i : Nat) : Int))) 0 (A.2.2 s) _ (by omega) ?_ ?_
  · intro i _ hi kc
    have h5 := h3 (sumN A.2.2 s + i) (by omega)
    have h6 := hA.1 (sumN A.2.2 s + i) (by omega)
    unfold BX11_usedOn_11 CX11_usedOn_11
    simp (disch := omega) only [J_add, J_sub, J_mul, J_lt, J_le, J_eq, xbr_true, xbr_false, xbr_pos, xbr_neg, Int.toNat_natCast, all_eq, ex_eq, gR_lay (t := 12) (o := 104) (k := 9) (r := 112) rfl, gR_lay (t := 12) (o := 104) (k := 5) (r := 109) rfl, gR_lay (t := 12) (o := 104) (k := 8) (r := 111) rfl, aI_lay (o := 112) (N := 8) rfl, aI_lay (o := 111) (N := 25) rfl, h4 s hs, h5, aI_lay (o := 109) (N := 24) rfl]
    rfl
  · intro kc
    unfold BX11_usedOn_11 CX11_usedOn_11
    simp (disch := omega) only [J_add, J_sub, J_mul, J_lt, J_le, J_eq, xbr_true, xbr_false, xbr_pos, xbr_neg, Int.toNat_natCast, all_eq, ex_eq, gR_lay (t := 12) (o := 104) (k := 9) (r := 112) rfl, aI_lay (o := 112) (N := 8) rfl, h4 s hs]
    rfl
theorem m_roomOn (h : RowM C A) (hA : RwOk A nb) (hn : nb ≤ 24) (hw : ∀ b, b < nb → 0 ≤ C 109 b ∧ C 109 b ≤ 9) {s : Nat} (hs : s < 8) : PX11_roomOn (ad z 104) (J s) (lay z g C) K = K (J (rmA (C 110) (C 109) A s)) := by
  unfold PX11_roomOn
  simp (disch := omega) only [J_add, J_sub, J_mul, J_lt, J_le, J_eq, xbr_true, xbr_false, xbr_pos, xbr_neg, Int.toNat_natCast, all_eq, ex_eq, tS_lay (o := 104) (t := 12) rfl, gR_lay (t := 12) (o := 104) (k := 6) (r := 110) rfl, aI_lay (o := 110) (N := 8) rfl, m_usedOn h hA hn hw hs]
  rfl
def shiftM (C : Nat → Nat → Int) (k : Nat) : Nat → Nat → Int := fun a j => if a = 111 ∧ k < j ∧ (j : Int) ≤ C 104 7 then C 111 (j - 1) else C a j
def insM (C : Nat → Nat → Int) (i b s : Nat) : Nat → Nat → Int := fun a j => if a = 104 ∧ j = 7 then C 104 7 + 1 else if a = 111 ∧ j = i then (b : Int) else if a = 111 ∧ i < j ∧ (j : Int) ≤ C 104 7 then C 111 (j - 1) else if a = 112 ∧ j = s then C 112 s + 1 else C a j
theorem m_insert {K : Mem → Prop} {i b s : Nat} (hl : 0 ≤ C 104 7 ∧ C 104 7 ≤ 24) (hi : (i : Int) ≤ C 104 7) (hs : s < 8) : PX11_insert (ad z 104) (J b) (J s) (J i) (lay z g C) K = K (lay z g (insM C i b s)) := by
  unfold PX11_insert
  simp (disch := omega) only [J_add, J_sub, J_mul, J_lt, J_le, J_eq, xbr_true, xbr_false, xbr_pos, xbr_neg, Int.toNat_natCast, all_eq, ex_eq, tS_lay (o := 104) (t := 12) rfl, gI_lay (t := 12) (o := 104) (k := 7) rfl]
  have e0 : shiftM C (C 104 7).toNat = C := by
    funext a j
    unfold shiftM
    split
    · omega
    · rfl
  have hle : C 104 7 = ((C 104 7).toNat : Int) := by omega
  generalize hm : (C 104 7).toNat = m at *
  have lenq : ∀ q, shiftM C q 104 7 = C 104 7 := fun q => by unfold shiftM; rw [if_neg (by omega)]
  rw [hle]
  have e2 : (lay z g C, J (m : Int)) = ((fun t : Nat => (lay z g (shiftM C (m - t)), J ((m - t : Nat) : Int))) 0) := by simp [e0]
  rw [e2]
  refine lp_for (fun t : Nat => (lay z g (shiftM C (m - t)), J ((m - t : Nat) : Int))) 0 (m - i) _ (by omega) ?_ ?_
  · intro t _ ht kc
    have q1 : (((m - t : Nat) : Int) - 1).toNat = m - (t + 1) := by omega
    unfold BX11_insert_6 CX11_insert_6
    simp (disch := omega) only [J_add, J_sub, J_mul, J_lt, J_le, J_eq, xbr_true, xbr_false, xbr_pos, xbr_neg, Int.toNat_natCast, all_eq, ex_eq, gR_lay (t := 12) (o := 104) (k := 8) (r := 111) rfl, aI_lay (o := 111) (N := 25) rfl, aS_lay (o := 111) (N := 25) rfl, q1]
    have e1 : up (shiftM C (m - t)) 111 (m - t) (shiftM C (m - t) 111 (m - (t + 1))) = shiftM C (m - (t + 1)) := by
      have q2 : shiftM C (m - t) 111 (m - (t + 1)) = C 111 (m - t - 1) := by
        unfold shiftM
        rw [if_neg (by omega)]
        congr 1
      rw [q2]
      funext a j
      simp only [up, shiftM]
      by_cases j1 : j = m - t
      · subst j1
        repeat' split
        all_goals first | rfl | omega
      · repeat' split
        all_goals first | rfl | omega
    rw [e1]
    have q3 : ((m - t : Nat) : Int) + -1 = ((m - (t + 1) : Nat) : Int) := by omega
    rw [q3]
  · intro kc
    have q0 : m - (m - i) = i := by omega
    unfold BX11_insert_6 CX11_insert_6
    simp only [q0]
    have q4 : shiftM C i 112 s = C 112 s := by unfold shiftM; rw [if_neg (by omega)]
    have q5 : up (shiftM C i) 111 i (b : Int) 112 s = C 112 s := by
      unfold up; rw [if_neg (by omega)]; exact q4
    simp (disch := omega) only [J_add, J_sub, J_mul, J_lt, J_le, J_eq, xbr_true, xbr_false, xbr_pos, xbr_neg, Int.toNat_natCast, all_eq, ex_eq, gI_lay (t := 12) (o := 104) (k := 7) rfl, gR_lay (t := 12) (o := 104) (k := 8) (r := 111) rfl, gR_lay (t := 12) (o := 104) (k := 9) (r := 112) rfl, aS_lay (o := 111) (N := 25) rfl, aS_lay (o := 112) (N := 8) rfl, aI_lay (o := 112) (N := 8) rfl, pF_lay (t := 12) (o := 104) (k := 7) rfl, q5]
    have q6 : up (up (shiftM C i) 111 i (b : Int)) 112 s (C 112 s + 1) 104 7 = C 104 7 := by
      simp only [up, shiftM]
      repeat' split
      all_goals first | rfl | omega
    rw [q6]
    congr 2
    funext a j
    simp only [up, shiftM, insM]
    by_cases a1 : a = 104
    · subst a1
      repeat' split
      all_goals first | rfl | omega
    · by_cases a2 : a = 111
      · subst a2
        repeat' split
        all_goals first | rfl | omega
      · repeat' split
        all_goals first | rfl | omega
theorem RowM.ins (h : RowM C A) {i b s : Nat} (hi : i ≤ A.1) (hl : A.1 < 24) : RowM (insM C i b s) (insA A i b s) := by
  obtain ⟨h1, h2, h3, h4⟩ := h
  refine ⟨?_, by show A.1 + 1 ≤ 24; omega, fun j hj => ?_, fun k hk => ?_⟩
  · unfold insM
    rw [if_pos ⟨rfl, rfl⟩, h1]
    show (A.1 : Int) + 1 = ((A.1 + 1 : Nat) : Int); omega
  · have hj' : j < A.1 + 1 := hj
    unfold insM
    rw [if_neg (by omega)]
    show _ = ((if j < i then A.2.1 j else if j = i then b else A.2.1 (j - 1) : Nat) : Int)
    by_cases c1 : j < i
    · rw [if_neg (by omega), if_neg (by omega), if_neg (by omega), if_pos c1]; exact h3 j (by omega)
    · rw [if_neg c1]
      by_cases c2 : j = i
      · rw [if_pos ⟨rfl, c2⟩, if_pos c2]
      · rw [if_neg (by omega), if_pos (by omega), if_neg c2]; exact h3 _ (by omega)
  · unfold insM
    rw [if_neg (by omega), if_neg (by omega), if_neg (by omega)]
    show _ = ((if k = s then A.2.2 s + 1 else A.2.2 k : Nat) : Int)
    by_cases c : k = s
    · subst c
      rw [if_pos ⟨rfl, rfl⟩, if_pos rfl, h4 k hk]; omega
    · rw [if_neg (by omega), if_neg c]; exact h4 k hk
def pullM (C : Nat → Nat → Int) (p s k : Nat) : Nat → Nat → Int := fun a j => if a = 104 ∧ j = 7 then C 104 7 - 1 else if a = 111 ∧ p ≤ j ∧ j < k then C 111 (j + 1) else if a = 112 ∧ j = s then C 112 s - 1 else C a j
theorem m_remove {K : Mem → Prop} (h : RowM C A) (hA : RwOk A nb) {p : Nat} (hp : p < A.1) : PX11_remove (ad z 104) (J p) (lay z g C) K = K (lay z g (pullM C p (shAt A.2.2 p) (A.1 - 1))) := by
  have hs := shAt_lt (on := A.2.2) (i := p) (by rw [hA.2.2]; exact hp)
  have hsh := fun K => m_shelfOf (z := z) (g := g) (K := K) h hA hp
  obtain ⟨h1, h2, h3, h4⟩ := h
  generalize shAt A.2.2 p = s at *
  unfold PX11_remove
  have q7 : up C 112 s (C 112 s - 1) 104 7 = C 104 7 := by unfold up; rw [if_neg (by omega)]
  simp (disch := omega) only [J_add, J_sub, J_mul, J_lt, J_le, J_eq, xbr_true, xbr_false, xbr_pos, xbr_neg, Int.toNat_natCast, all_eq, ex_eq, tS_lay (o := 104) (t := 12) rfl, gR_lay (t := 12) (o := 104) (k := 9) (r := 112) rfl, hsh, aI_lay (o := 112) (N := 8) rfl, aS_lay (o := 112) (N := 8) rfl, gI_lay (t := 12) (o := 104) (k := 7) rfl, q7, pF_lay (t := 12) (o := 104) (k := 7) rfl]
  have e0 : up (up C 112 s (C 112 s - 1)) 104 7 (C 104 7 - 1) = pullM C p s p := by
    funext a j
    simp only [up, pullM]
    by_cases a1 : a = 104
    · subst a1
      repeat' split
      all_goals first | rfl | omega
    · repeat' split
      all_goals first | rfl | omega
  have lenq : ∀ q, pullM C p s q 104 7 = C 104 7 - 1 := fun q => by unfold pullM; rw [if_pos ⟨rfl, rfl⟩]
  rw [e0]
  refine lp_for (fun t : Nat => (lay z g (pullM C p s t), J (t : Int))) p (A.1 - 1) _ (by omega) ?_ ?_
  · intro t ht0 ht kc
    have q1 : ((t : Int) + 1).toNat = t + 1 := by omega
    unfold BX11_remove_26 CX11_remove_26
    simp (disch := omega) only [J_add, J_sub, J_mul, J_lt, J_le, J_eq, xbr_true, xbr_false, xbr_pos, xbr_neg, Int.toNat_natCast, all_eq, ex_eq, gI_lay (t := 12) (o := 104) (k := 7) rfl, lenq, gR_lay (t := 12) (o := 104) (k := 8) (r := 111) rfl, aI_lay (o := 111) (N := 25) rfl, aS_lay (o := 111) (N := 25) rfl, q1]
    have e1 : up (pullM C p s t) 111 t (pullM C p s t 111 (t + 1)) = pullM C p s (t + 1) := by
      have q2 : pullM C p s t 111 (t + 1) = C 111 (t + 1) := by
        unfold pullM
        rw [if_neg (by omega), if_neg (by omega), if_neg (by omega)]
      rw [q2]
      funext a j
      simp only [up, pullM]
      by_cases j1 : j = t
      · subst j1
        repeat' split
        all_goals first | rfl | omega
      · repeat' split
        all_goals first | rfl | omega
    rw [e1]
    rfl
  · intro kc
    unfold BX11_remove_26 CX11_remove_26
    simp (disch := omega) only [J_add, J_sub, J_mul, J_lt, J_le, J_eq, xbr_true, xbr_false, xbr_pos, xbr_neg, Int.toNat_natCast, all_eq, ex_eq, gI_lay (t := 12) (o := 104) (k := 7) rfl, lenq]
theorem RowM.rmv (h : RowM C A) (hA : RwOk A nb) {p : Nat} (hp : p < A.1) : RowM (pullM C p (shAt A.2.2 p) (A.1 - 1)) (rmvA A p) := by
  have hp8 : p < sumN A.2.2 8 := by rw [hA.2.2]; exact hp
  have hs := shAt_lt hp8
  have hpb := (shAt_iff (on := A.2.2) (i := p) hs).mp rfl
  have e2 : sumN A.2.2 (shAt A.2.2 p + 1) = sumN A.2.2 (shAt A.2.2 p) + A.2.2 (shAt A.2.2 p) := rfl
  obtain ⟨h1, h2, h3, h4⟩ := h
  refine ⟨?_, by show A.1 - 1 ≤ 24; omega, fun j hj => ?_, fun k hk => ?_⟩
  · unfold pullM
    rw [if_pos ⟨rfl, rfl⟩, h1]
    show (A.1 : Int) - 1 = ((A.1 - 1 : Nat) : Int); omega
  · have hj' : j < A.1 - 1 := hj
    unfold pullM
    rw [if_neg (by omega)]
    show _ = ((if j < p then A.2.1 j else A.2.1 (j + 1) : Nat) : Int)
    by_cases c1 : j < p
    · rw [if_neg (by omega), if_neg (by omega), if_pos c1]; exact h3 j (by omega)
    · rw [if_pos (by omega), if_neg c1]; exact h3 _ (by omega)
  · unfold pullM
    rw [if_neg (by omega), if_neg (by omega)]
    show _ = ((if k = shAt A.2.2 p then A.2.2 k - 1 else A.2.2 k : Nat) : Int)
    by_cases c : k = shAt A.2.2 p
    · rw [if_pos ⟨rfl, c⟩, if_pos c, ← c, h4 k hk]
      rw [← c] at e2 hpb
      omega
    · rw [if_neg (by omega), if_neg c]; exact h4 k hk
end MR
