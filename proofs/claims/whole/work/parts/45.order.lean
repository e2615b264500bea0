/-! order: all by one number; sorting by insertion -/
def ordK (C : Nat → Nat → Int) (a : Nat) (k : Int) : Int := ((((keyC C (8 + 3 * a) 0 k * 4000000 + keyC C (8 + 3 * a) 1 k) * 4000000 + keyC C (8 + 3 * a) 2 k) * 4000000 + keyC C (8 + 3 * a) 3 k) * 4000000 + keyC C (8 + 3 * a) 4 k) * 32 + a
theorem ordK_cmp {a0 a1 a2 a3 a4 b0 b1 b2 b3 b4 a b : Int} (h : (-1 ≤ a0 ∧ a0 ≤ 2000000) ∧ (-1 ≤ a1 ∧ a1 ≤ 2000000) ∧ (-1 ≤ a2 ∧ a2 ≤ 2000000) ∧ (-1 ≤ a3 ∧ a3 ≤ 2000000) ∧ (-1 ≤ a4 ∧ a4 ≤ 2000000)) (h' : (-1 ≤ b0 ∧ b0 ≤ 2000000) ∧ (-1 ≤ b1 ∧ b1 ≤ 2000000) ∧ (-1 ≤ b2 ∧ b2 ≤ 2000000) ∧ (-1 ≤ b3 ∧ b3 ≤ 2000000) ∧ (-1 ≤ b4 ∧ b4 ≤ 2000000)) (ha : 0 ≤ a ∧ a < 24) (hb : 0 ≤ b ∧ b < 24) :
    ((((a0 * 4000000 + a1) * 4000000 + a2) * 4000000 + a3) * 4000000 + a4) * 32 + a < ((((b0 * 4000000 + b1) * 4000000 + b2) * 4000000 + b3) * 4000000 + b4) * 32 + b ↔
    (if a0 = b0 then (if a1 = b1 then (if a2 = b2 then (if a3 = b3 then (if a4 = b4 then a < b else a4 < b4) else a3 < b3) else a2 < b2) else a1 < b1) else a0 < b0) := by
  by_cases c0 : a0 = b0
  · rw [if_pos c0]
    by_cases c1 : a1 = b1
    · rw [if_pos c1]
      by_cases c2 : a2 = b2
      · rw [if_pos c2]
        by_cases c3 : a3 = b3
        · rw [if_pos c3]
          by_cases c4 : a4 = b4
          · rw [if_pos c4]; omega
          · rw [if_neg c4]; omega
        · rw [if_neg c3]; omega
      · rw [if_neg c2]; omega
    · rw [if_neg c1]; omega
  · rw [if_neg c0]; omega
theorem aheadC_ord {C : Nat → Nat → Int} (hB : BooksOk C) {a b : Nat} (ha : a < 24) (hb : b < 24) (k : Int) : aheadC C a b k = decide (ordK C a k < ordK C b k) := by
  have ra := fun p => keyC_r (hB (8 + 3 * a) (Or.inr ⟨a, ha, rfl⟩)) p k
  have rb := fun p => keyC_r (hB (8 + 3 * b) (Or.inr ⟨b, hb, rfl⟩)) p k
  have e := ordK_cmp ⟨ra 0, ra 1, ra 2, ra 3, ra 4⟩ ⟨rb 0, rb 1, rb 2, rb 3, rb 4⟩ (a := a) (b := b) (by omega) (by omega)
  unfold aheadC
  rw [bkO_nat ha, bkO_nat hb, cmpC_eq]
  have e2 : decide (ordK C a k < ordK C b k) = decide (if keyC C (8 + 3 * a) 0 k = keyC C (8 + 3 * b) 0 k then (if keyC C (8 + 3 * a) 1 k = keyC C (8 + 3 * b) 1 k then (if keyC C (8 + 3 * a) 2 k = keyC C (8 + 3 * b) 2 k then (if keyC C (8 + 3 * a) 3 k = keyC C (8 + 3 * b) 3 k then (if keyC C (8 + 3 * a) 4 k = keyC C (8 + 3 * b) 4 k then (a : Int) < b else keyC C (8 + 3 * a) 4 k < keyC C (8 + 3 * b) 4 k) else keyC C (8 + 3 * a) 3 k < keyC C (8 + 3 * b) 3 k) else keyC C (8 + 3 * a) 2 k < keyC C (8 + 3 * b) 2 k) else keyC C (8 + 3 * a) 1 k < keyC C (8 + 3 * b) 1 k) else keyC C (8 + 3 * a) 0 k < keyC C (8 + 3 * b) 0 k) := by
    rw [decide_eq_decide]; exact e
  rw [e2]
  clear e e2
  by_cases c0 : keyC C (8 + 3 * a) 0 k = keyC C (8 + 3 * b) 0 k
  · by_cases c1 : keyC C (8 + 3 * a) 1 k = keyC C (8 + 3 * b) 1 k
    · by_cases c2 : keyC C (8 + 3 * a) 2 k = keyC C (8 + 3 * b) 2 k
      · by_cases c3 : keyC C (8 + 3 * a) 3 k = keyC C (8 + 3 * b) 3 k
        · by_cases c4 : keyC C (8 + 3 * a) 4 k = keyC C (8 + 3 * b) 4 k
          · simp only [c0, c1, c2, c3, c4, if_true]
          · by_cases d : keyC C (8 + 3 * a) 4 k < keyC C (8 + 3 * b) 4 k
            · simp [c0, c1, c2, c3, c4, d]
            · simp [c0, c1, c2, c3, c4, d]
        · by_cases d : keyC C (8 + 3 * a) 3 k < keyC C (8 + 3 * b) 3 k
          · simp [c0, c1, c2, c3, d]
          · simp [c0, c1, c2, c3, d]
      · by_cases d : keyC C (8 + 3 * a) 2 k < keyC C (8 + 3 * b) 2 k
        · simp [c0, c1, c2, d]
        · simp [c0, c1, c2, d]
    · by_cases d : keyC C (8 + 3 * a) 1 k < keyC C (8 + 3 * b) 1 k
      · simp [c0, c1, d]
      · simp [c0, c1, d]
  · by_cases d : keyC C (8 + 3 * a) 0 k < keyC C (8 + 3 * b) 0 k
    · simp [c0, d]
    · simp [c0, d]
theorem ordK_inj {C : Nat → Nat → Int} {a b : Nat} (ha : a < 24) (hb : b < 24) {k : Int} (h : ordK C a k = ordK C b k) : a = b := by
  unfold ordK at h; omega
/-- a line, no matter of shelves -/
def insL (A : Rw) (i b : Nat) : Rw := (A.1 + 1, fun j => if j < i then A.2.1 j else if j = i then b else A.2.1 (j - 1), fun _ => 0)
def srtA (C : Nat → Nat → Int) (k : Int) (P : Nat → Bool) : Nat → Rw
  | 0 => (0, fun _ => 0, fun _ => 0)
  | n + 1 => if P n then insL (srtA C k P n) (spotA C (srtA C k P n) n k) n else srtA C k P n
/-- a line of books below n that P says, each once, in order -/
def SrtOk (C : Nat → Nat → Int) (k : Int) (P : Nat → Bool) (n : Nat) (A : Rw) : Prop := (∀ i, i < A.1 → A.2.1 i < n ∧ P (A.2.1 i) = true) ∧ (∀ b, b < n → P b = true → ∃ i, i < A.1 ∧ A.2.1 i = b) ∧ ∀ i j, i < j → j < A.1 → ordK C (A.2.1 i) k < ordK C (A.2.1 j) k
theorem SrtOk.step {C : Nat → Nat → Int} {k : Int} {P : Nat → Bool} {n : Nat} {A : Rw} (hB : BooksOk C) (hn : n < 24) (h : SrtOk C k P n A) (hp : P n = true) : SrtOk C k P (n + 1) (insL A (spotA C A n k) n) := by
  obtain ⟨h1, h2, h3⟩ := h
  have hle := spotA_le C A n k
  have lo : ∀ i, i < spotA C A n k → ordK C (A.2.1 i) k < ordK C n k := fun i hi => by
    have h6 := fst1_lt (n := A.1) (f := fun i => !aheadC C (A.2.1 i) n k) hi
    have h7 := h1 i (by omega)
    rw [aheadC_ord hB (by omega) hn] at h6
    simpa using h6
  have hi : ∀ i, spotA C A n k ≤ i → i < A.1 → ordK C n k < ordK C (A.2.1 i) k := fun i hi hi2 => by
    have h6 := fst1_at (n := A.1) (f := fun i => !aheadC C (A.2.1 i) n k) (by show spotA C A n k < A.1; omega)
    have h7 := h1 (spotA C A n k) (by omega)
    have h6' : (!aheadC C (A.2.1 (spotA C A n k)) n k) = true := h6
    rw [aheadC_ord hB (by omega) hn] at h6'
    have h8 : ordK C n k ≤ ordK C (A.2.1 (spotA C A n k)) k := by simpa using h6'
    have h9 : ordK C n k ≠ ordK C (A.2.1 (spotA C A n k)) k := fun e => by have := ordK_inj hn (by omega) e; omega
    rcases Nat.lt_or_ge (spotA C A n k) i with c | c
    · have := h3 _ _ c hi2; omega
    · have : i = spotA C A n k := by omega
      rw [this]; omega
  generalize spotA C A n k = s at *
  refine ⟨fun i hi' => ?_, fun b hb hpb => ?_, fun i j hij hj => ?_⟩
  · have hi'' : i < A.1 + 1 := hi'
    show (if i < s then A.2.1 i else if i = s then n else A.2.1 (i - 1)) < n + 1 ∧ P (if i < s then A.2.1 i else if i = s then n else A.2.1 (i - 1)) = true
    by_cases c1 : i < s
    · rw [if_pos c1]; have := h1 i (by omega); exact ⟨by omega, this.2⟩
    · rw [if_neg c1]
      by_cases c2 : i = s
      · rw [if_pos c2]; exact ⟨by omega, hp⟩
      · rw [if_neg c2]; have := h1 (i - 1) (by omega); exact ⟨by omega, this.2⟩
  · rcases Nat.lt_or_ge b n with c | c
    · obtain ⟨i, hi1, hi2⟩ := h2 b c hpb
      by_cases c1 : i < s
      · refine ⟨i, by show i < A.1 + 1; omega, ?_⟩
        show (if i < s then A.2.1 i else _) = b
        rw [if_pos c1]; exact hi2
      · refine ⟨i + 1, by show i + 1 < A.1 + 1; omega, ?_⟩
        show (if i + 1 < s then A.2.1 (i + 1) else if i + 1 = s then n else A.2.1 (i + 1 - 1)) = b
        rw [if_neg (by omega), if_neg (by omega)]; exact hi2
    · refine ⟨s, by show s < A.1 + 1; omega, ?_⟩
      show (if s < s then A.2.1 s else if s = s then n else A.2.1 (s - 1)) = b
      rw [if_neg (by omega), if_pos rfl]; omega
  · have hj' : j < A.1 + 1 := hj
    show ordK C (if i < s then A.2.1 i else if i = s then n else A.2.1 (i - 1)) k < ordK C (if j < s then A.2.1 j else if j = s then n else A.2.1 (j - 1)) k
    by_cases c1 : j < s
    · rw [if_pos (by omega), if_pos c1]; exact h3 i j hij (by omega)
    · rw [if_neg c1]
      by_cases c2 : j = s
      · rw [if_pos c2, if_pos (by omega)]; exact lo i (by omega)
      · rw [if_neg c2]
        by_cases c3 : i < s
        · rw [if_pos c3]
          have := lo i c3
          have := hi (j - 1) (by omega) (by omega)
          omega
        · rw [if_neg c3]
          by_cases c4 : i = s
          · rw [if_pos c4]; exact hi (j - 1) (by omega) (by omega)
          · rw [if_neg c4]; exact h3 (i - 1) (j - 1) (by omega) (by omega)
theorem srtA_ok {C : Nat → Nat → Int} {k : Int} {P : Nat → Bool} (hB : BooksOk C) {n : Nat} (hn : n ≤ 24) : SrtOk C k P n (srtA C k P n) := by
  induction n with
  | zero => exact ⟨fun i hi => absurd hi (Nat.not_lt_zero _), fun b hb => absurd hb (Nat.not_lt_zero _), fun i j _ hj => absurd hj (Nat.not_lt_zero _)⟩
  | succ n ih =>
    have h := ih (by omega)
    show SrtOk C k P (n + 1) (if P n then insL (srtA C k P n) (spotA C (srtA C k P n) n k) n else srtA C k P n)
    by_cases c : P n = true
    · rw [if_pos c]; exact h.step hB (by omega) c
    · rw [if_neg c]
      refine ⟨fun i hi => ⟨by have := (h.1 i hi).1; omega, (h.1 i hi).2⟩, fun b hb hp => h.2.1 b ?_ hp, h.2.2⟩
      rcases Nat.lt_or_ge b n with c2 | c2
      · exact c2
      · have : b = n := by omega
        rw [this] at hp; exact absurd hp c
theorem SrtOk.inj {C : Nat → Nat → Int} {k : Int} {P : Nat → Bool} {n : Nat} {A : Rw} (h : SrtOk C k P n A) : ∀ i j, i < A.1 → j < A.1 → A.2.1 i = A.2.1 j → i = j := by
  intro i j hi hj e
  rcases Nat.lt_trichotomy i j with c | c | c
  · have := h.2.2 i j c hj; rw [e] at this; omega
  · exact c
  · have := h.2.2 j i c hi; rw [e] at this; omega
theorem srtA_len {C : Nat → Nat → Int} {k : Int} {P : Nat → Bool} (n : Nat) : (srtA C k P n).1 ≤ n := by
  induction n with
  | zero => exact Nat.le_refl _
  | succ n ih =>
    show (if P n then insL (srtA C k P n) (spotA C (srtA C k P n) n k) n else srtA C k P n).1 ≤ n + 1
    split
    · show (srtA C k P n).1 + 1 ≤ n + 1; omega
    · omega
/-- how many of a line come before the i-th: i -/
theorem SrtOk.rank {C : Nat → Nat → Int} {k : Int} {P : Nat → Bool} {n : Nat} {A : Rw} (h : SrtOk C k P n A) {i : Nat} (hi : i < A.1) : cnt A.1 (fun j => decide (ordK C (A.2.1 j) k < ordK C (A.2.1 i) k)) = i := by
  have e : ∀ m, m ≤ A.1 → cnt m (fun j => decide (ordK C (A.2.1 j) k < ordK C (A.2.1 i) k)) = if m ≤ i then m else i := by
    intro m
    induction m with
    | zero => intro _; rw [if_pos (by omega)]; rfl
    | succ m ih =>
      intro hm
      show cnt m _ + _ = _
      rw [ih (by omega)]
      by_cases c : m < i
      · have := h.2.2 m i c hi
        rw [if_pos (by omega), if_pos (by simpa using this), if_pos (by omega)]
      · have : ¬ ordK C (A.2.1 m) k < ordK C (A.2.1 i) k := by
          rcases Nat.lt_or_ge i m with c2 | c2
          · have := h.2.2 i m c2 (by omega); omega
          · have : m = i := by omega
            rw [this]; omega
        have e0 : decide (ordK C (A.2.1 m) k < ordK C (A.2.1 i) k) = false := decide_eq_false this
        show (if m ≤ i then m else i) + (if decide (ordK C (A.2.1 m) k < ordK C (A.2.1 i) k) = true then 1 else 0) = _
        rw [e0]
        simp only [Bool.false_eq_true, if_false, Nat.add_zero]
        split <;> split <;> omega
  rw [e A.1 (Nat.le_refl _), if_neg (by omega)]
/-- counted over the line as over the books -/
theorem SrtOk.count {C : Nat → Nat → Int} {k : Int} {P : Nat → Bool} {n : Nat} {A : Rw} (h : SrtOk C k P n A) (f : Nat → Bool) : cnt n (fun b => P b && f b) = cnt A.1 (fun j => f (A.2.1 j)) := by
  have e1 := cnt_sum n (fun b => P b && f b)
  have e2 := cnt_sum A.1 (fun j => f (A.2.1 j))
  have e3 := sumZ_perm (F := fun b => if (P b && f b) = true then 1 else 0) (ln := A.2.1) (n := n) (m := A.1) (fun i hi => (h.1 i hi).1) h.inj (fun b hb hq => by
    have : P b = false := by
      cases hp : P b with
      | false => rfl
      | true => obtain ⟨i, h1, h2⟩ := h.2.1 b hb hp; exact absurd h2 (hq i h1)
    simp [this])
  have e4 : sumZ (fun i => (fun b => if (P b && f b) = true then (1 : Int) else 0) (A.2.1 i)) A.1 = sumZ (fun j => if f (A.2.1 j) = true then 1 else 0) A.1 := sumZ_congr fun i hi => by
    show (if (P (A.2.1 i) && f (A.2.1 i)) = true then (1 : Int) else 0) = _
    rw [(h.1 i hi).2, Bool.true_and]
  rw [e4] at e3
  omega
/-- the class's row r has the line of A, each of its books on shelf s -/
def RowS (C : Nat → Nat → Int) (r : Nat) (A : Rw) (s : Int) : Prop := C r 2 = A.1 ∧ (∀ i, i < A.1 → C (r + 1) i = A.2.1 i) ∧ (∀ i, i < A.1 → C (r + 2) (A.2.1 i) = s) ∧ (∀ b, b < 24 → (∀ i, i < A.1 → A.2.1 i ≠ b) → C (r + 2) b = -1) ∧ RowOk C r
theorem RowS.ins {C : Nat → Nat → Int} {r : Nat} {A : Rw} {s : Int} (h : RowS C r A s) {i b : Nat} (hl : A.1 < 24) (hs : 0 ≤ s ∧ s ≤ 8) (hb : b < 24) (hq : ∀ i, i < A.1 → A.2.1 i ≠ b) (hi : i ≤ A.1) : RowS (insC C r i b s) r (insL A i b) s := by
  obtain ⟨g1, g2, g3, g4, g5⟩ := h
  have q1 : insC C r i b s r 2 = C r 2 + 1 := by unfold insC; rw [if_pos ⟨rfl, rfl⟩]
  have q2 : ∀ j, insC C r i b s (r + 1) j = if j = i then (b : Int) else if i < j ∧ (j : Int) ≤ C r 2 then C (r + 1) (j - 1) else C (r + 1) j := fun j => by
    unfold insC
    rw [if_neg (by omega)]
    by_cases c : j = i
    · rw [if_pos ⟨rfl, c⟩, if_pos c]
    · rw [if_neg (by omega), if_neg c]
      by_cases c2 : i < j ∧ (j : Int) ≤ C r 2
      · rw [if_pos ⟨rfl, c2⟩, if_pos c2]
      · rw [if_neg (fun q => c2 q.2), if_neg c2, if_neg (by omega)]
  have q3 : ∀ j, insC C r i b s (r + 2) j = if j = b then s else C (r + 2) j := fun j => by
    unfold insC
    rw [if_neg (by omega), if_neg (by omega), if_neg (by omega)]
    by_cases c : j = b
    · rw [if_pos ⟨rfl, c⟩, if_pos c]
    · rw [if_neg (by omega), if_neg c]
  refine ⟨?_, fun j hj => ?_, fun j hj => ?_, fun x hx hx2 => ?_, ?_, fun j hj => ?_, fun x hx => ?_⟩
  · rw [q1, g1]; show (A.1 : Int) + 1 = ((A.1 + 1 : Nat) : Int); omega
  · have hj' : j < A.1 + 1 := hj
    rw [q2]
    show _ = ((if j < i then A.2.1 j else if j = i then b else A.2.1 (j - 1) : Nat) : Int)
    by_cases c1 : j < i
    · rw [if_neg (by omega), if_neg (by omega), if_pos c1]; exact g2 j (by omega)
    · rw [if_neg c1]
      by_cases c2 : j = i
      · rw [if_pos c2, if_pos c2]
      · rw [if_neg c2, if_pos (by omega), if_neg c2]; exact g2 _ (by omega)
  · have hj' : j < A.1 + 1 := hj
    rw [q3]
    show (if (if j < i then A.2.1 j else if j = i then b else A.2.1 (j - 1)) = b then s else C (r + 2) (if j < i then A.2.1 j else if j = i then b else A.2.1 (j - 1))) = _
    by_cases c1 : j < i
    · rw [if_pos c1, if_neg (hq _ (by omega))]; exact g3 j (by omega)
    · rw [if_neg c1]
      by_cases c2 : j = i
      · rw [if_pos c2, if_pos rfl]
      · rw [if_neg c2, if_neg (hq _ (by omega))]; exact g3 _ (by omega)
  · rw [q3]
    have hx3 : x ≠ b := fun e => hx2 i (by show i < A.1 + 1; omega) (by
      show (if i < i then A.2.1 i else if i = i then b else A.2.1 (i - 1)) = x
      rw [if_neg (by omega), if_pos rfl]; exact e.symm)
    rw [if_neg hx3]
    refine g4 x hx fun j hj e => ?_
    by_cases c1 : j < i
    · exact hx2 j (by show j < A.1 + 1; omega) (by
        show (if j < i then A.2.1 j else if j = i then b else A.2.1 (j - 1)) = x
        rw [if_pos c1]; exact e)
    · exact hx2 (j + 1) (by show j + 1 < A.1 + 1; omega) (by
        show (if j + 1 < i then A.2.1 (j + 1) else if j + 1 = i then b else A.2.1 (j + 1 - 1)) = x
        rw [if_neg (by omega), if_neg (by omega)]; exact e)
  · rw [q1]; have := g5.1; omega
  · rw [q2]
    have := g5.2.1 j hj
    have h3 := g5.2.1 (j - 1) (by omega)
    split
    · omega
    · split <;> omega
  · rw [q3]
    have := g5.2.2 x hx
    split <;> omega
def srtC (C : Nat → Nat → Int) (r : Nat) (k : Int) (P : Nat → Bool) (s : Int) : Nat → Nat → Nat → Int
  | 0 => clrC C r 24
  | n + 1 => if P n then insC (srtC C r k P s n) r (spotA C (srtA C k P n) n k) n s else srtC C r k P s n
theorem srtC_ne {C : Nat → Nat → Int} {r : Nat} {k : Int} {P : Nat → Bool} {s : Int} {n a : Nat} (h : a < r ∨ r + 2 < a) : srtC C r k P s n a = C a := by
  induction n with
  | zero => funext j; show clrC C r 24 a j = _; unfold clrC; rw [if_neg (by omega), if_neg (by omega)]
  | succ n ih =>
    show (if P n then insC (srtC C r k P s n) r (spotA C (srtA C k P n) n k) n s else srtC C r k P s n) a = _
    split
    · rw [insC_ne h, ih]
    · exact ih
theorem srtC_row {C : Nat → Nat → Int} {r : Nat} {k : Int} {P : Nat → Bool} {s : Int} (hB : BooksOk C) (ho : RowOk C r) (hs : 0 ≤ s ∧ s ≤ 8) {n : Nat} (hn : n ≤ 24) : RowS (srtC C r k P s n) r (srtA C k P n) s := by
  induction n with
  | zero =>
    refine ⟨?_, fun i hi => absurd hi (Nat.not_lt_zero _), fun i hi => absurd hi (Nat.not_lt_zero _), fun b hb _ => ?_, ?_, fun i hi => ?_, fun b hb => ?_⟩
    · show clrC C r 24 r 2 = _; unfold clrC; rw [if_pos ⟨rfl, rfl⟩]; rfl
    · show clrC C r 24 (r + 2) b = _; unfold clrC; rw [if_neg (by omega), if_pos ⟨rfl, hb⟩]
    · show 0 ≤ clrC C r 24 r 2 ∧ clrC C r 24 r 2 ≤ 24; unfold clrC; rw [if_pos ⟨rfl, rfl⟩]; omega
    · show -1 ≤ clrC C r 24 (r + 1) i ∧ clrC C r 24 (r + 1) i ≤ 24; unfold clrC; rw [if_neg (by omega), if_neg (by omega)]; exact ho.2.1 i hi
    · show -1 ≤ clrC C r 24 (r + 2) b ∧ clrC C r 24 (r + 2) b ≤ 8; unfold clrC; rw [if_neg (by omega), if_pos ⟨rfl, hb⟩]; omega
  | succ n ih =>
    have h := ih (by omega)
    have hk := srtA_ok (k := k) (P := P) hB (n := n) (by omega)
    have hl := srtA_len (C := C) (k := k) (P := P) n
    show RowS (if P n then insC (srtC C r k P s n) r (spotA C (srtA C k P n) n k) n s else srtC C r k P s n) r (if P n then insL (srtA C k P n) (spotA C (srtA C k P n) n k) n else srtA C k P n) s
    by_cases c : P n = true
    · rw [if_pos c, if_pos c]
      exact h.ins (by omega) hs (by omega) (fun i hi => by have := (hk.1 i hi).1; omega) (spotA_le _ _ _ _)
    · rw [if_neg c, if_neg c]; exact h
theorem RowS.spot {C D : Nat → Nat → Int} {r : Nat} {A : Rw} {s : Int} (h : RowS D r A s) (e : ∀ o, 5 ≤ o → o ≤ 79 → D o = C o) (b : Nat) (k : Int) : fst1 (D r 2).toNat (fun i => !aheadC D (D (r + 1) i) b k) = spotA C A b k := by
  have e0 : (D r 2).toNat = A.1 := by have := h.1; omega
  rw [e0]
  unfold spotA
  exact fst1_congr fun i hi => by rw [h.2.1 i hi, aheadC_congr e]
section ORD
variable {z : Nat} {g : Mem} {C C' : Nat → Nat → Int} {nb : Nat} {A A' : Rw}
theorem BooksOk.fr (h : BooksOk C) (e : ∀ o, 5 ≤ o → o ≤ 79 → C' o = C o) : BooksOk C' := fun o ho => by
  obtain ⟨i, hi, rfl⟩ := isBook_i ho
  have := h _ ho
  unfold BookOk at this ⊢
  rw [e (5 + 3 * i) (by omega) (by omega)]
  exact this
theorem m_rank (hnb : C 104 0 = nb) (hn : nb ≤ 24) (hB : ∀ b, b < nb → BkRel C b) (hB' : BooksOk C) {b : Nat} (hb : b < nb) {k : Int} (h1 : 0 ≤ k) (h2 : k < 5) {K : Int32 → Prop} : PX11_rank (ad z 104) (J b) (J k) (J 1) (lay z g C) K = K (J (cnt nb (fun a => decide (ordK C a k < ordK C b k)) : Nat)) := by
  unfold PX11_rank
  simp (disch := omega) only [J_add, J_sub, J_mul, J_lt, J_le, J_eq, xbr_true, xbr_false, xbr_pos, xbr_neg, Int.toNat_natCast, all_eq, ex_eq, t_0, q_0_0, q_0_1, q_0_2, q_0_3, q_0_4, q_0_5, q_0_6, q_0_7, q_0_8, q_0_9, i_0_10, p_0_10, i_0_11, p_0_11, i_0_12, p_0_12, t_1, q_1_0, t_3, q_3_0, q_3_1, i_3_2, p_3_2, i_3_3, p_3_3, t_80, q_80_0, t_88, q_88_0, t_90, q_90_0, t_92, q_92_0, q_92_1, q_92_2, i_92_3, p_92_3, i_92_4, p_92_4, t_96, q_96_0, i_96_1, p_96_1, i_96_2, p_96_2, i_96_3, p_96_3, t_100, q_100_0, i_100_1, p_100_1, i_100_2, p_100_2, i_100_3, p_100_3, t_104, q_104_1, q_104_2, q_104_3, q_104_4, q_104_5, q_104_6, q_104_8, q_104_9, q_104_11, q_104_12, q_104_18, q_104_21, q_104_22, q_104_23, q_104_24, q_104_26, q_104_27, q_104_28, q_104_30, q_104_31, i_104_0, p_104_0, i_104_7, p_104_7, i_104_10, p_104_10, i_104_13, p_104_13, i_104_14, p_104_14, i_104_15, p_104_15, i_104_16, p_104_16, i_104_17, p_104_17, i_104_19, p_104_19, i_104_20, p_104_20, i_104_25, p_104_25, i_104_29, p_104_29, a_2, w_2, a_81, w_81, a_89, w_89, a_91, w_91, a_93, w_93, a_94, w_94, a_95, w_95, a_105, w_105, a_106, w_106, a_107, w_107, a_108, w_108, a_109, w_109, a_110, w_110, a_111, w_111, a_112, w_112, a_113, w_113, a_114, w_114, a_115, w_115, a_116, w_116, a_117, w_117, a_118, w_118, a_119, w_119, a_120, w_120, a_121, w_121, a_122, w_122, a_123, w_123, a_124, w_124]
  refine lp_for (fun i : Nat => (J (cnt i (fun a => decide (ordK C a k < ordK C b k)) : Nat), J (i : Int))) 0 nb _ (by omega) ?_ ?_
  · intro i _ hi kc
    have c1 := cnt_le i (fun a => decide (ordK C a k < ordK C b k))
    unfold BX11_rank_6 CX11_rank_6 JX11_rank_30
    simp (disch := omega) only [J_add, J_sub, J_mul, J_lt, J_le, J_eq, xbr_true, xbr_false, xbr_pos, xbr_neg, Int.toNat_natCast, all_eq, ex_eq, t_0, q_0_0, q_0_1, q_0_2, q_0_3, q_0_4, q_0_5, q_0_6, q_0_7, q_0_8, q_0_9, i_0_10, p_0_10, i_0_11, p_0_11, i_0_12, p_0_12, t_1, q_1_0, t_3, q_3_0, q_3_1, i_3_2, p_3_2, i_3_3, p_3_3, t_80, q_80_0, t_88, q_88_0, t_90, q_90_0, t_92, q_92_0, q_92_1, q_92_2, i_92_3, p_92_3, i_92_4, p_92_4, t_96, q_96_0, i_96_1, p_96_1, i_96_2, p_96_2, i_96_3, p_96_3, t_100, q_100_0, i_100_1, p_100_1, i_100_2, p_100_2, i_100_3, p_100_3, t_104, q_104_1, q_104_2, q_104_3, q_104_4, q_104_5, q_104_6, q_104_8, q_104_9, q_104_11, q_104_12, q_104_18, q_104_21, q_104_22, q_104_23, q_104_24, q_104_26, q_104_27, q_104_28, q_104_30, q_104_31, i_104_0, p_104_0, i_104_7, p_104_7, i_104_10, p_104_10, i_104_13, p_104_13, i_104_14, p_104_14, i_104_15, p_104_15, i_104_16, p_104_16, i_104_17, p_104_17, i_104_19, p_104_19, i_104_20, p_104_20, i_104_25, p_104_25, i_104_29, p_104_29, a_2, w_2, a_81, w_81, a_89, w_89, a_91, w_91, a_93, w_93, a_94, w_94, a_95, w_95, a_105, w_105, a_106, w_106, a_107, w_107, a_108, w_108, a_109, w_109, a_110, w_110, a_111, w_111, a_112, w_112, a_113, w_113, a_114, w_114, a_115, w_115, a_116, w_116, a_117, w_117, a_118, w_118, a_119, w_119, a_120, w_120, a_121, w_121, a_122, w_122, a_123, w_123, a_124, w_124, hnb, m_isAhead (hB i hi) (hB b hb), aheadC_ord hB' (show i < 24 by omega) (show b < 24 by omega)]
    by_cases c : ordK C i k < ordK C b k
    · simp only [decide_eq_true_eq, if_pos c]
      simp (disch := omega) only [J_add, J_sub, J_mul, J_lt, J_le, J_eq, xbr_true, xbr_false, xbr_pos, xbr_neg, Int.toNat_natCast, all_eq, ex_eq]
      simp [cnt, c]
    · simp only [decide_eq_true_eq, if_neg c]
      simp (disch := omega) only [J_add, J_sub, J_mul, J_lt, J_le, J_eq, xbr_true, xbr_false, xbr_pos, xbr_neg, Int.toNat_natCast, all_eq, ex_eq]
      simp [cnt, c]
  · intro kc
    unfold BX11_rank_6 CX11_rank_6
    simp (disch := omega) only [J_add, J_sub, J_mul, J_lt, J_le, J_eq, xbr_true, xbr_false, xbr_pos, xbr_neg, Int.toNat_natCast, all_eq, ex_eq, t_0, q_0_0, q_0_1, q_0_2, q_0_3, q_0_4, q_0_5, q_0_6, q_0_7, q_0_8, q_0_9, i_0_10, p_0_10, i_0_11, p_0_11, i_0_12, p_0_12, t_1, q_1_0, t_3, q_3_0, q_3_1, i_3_2, p_3_2, i_3_3, p_3_3, t_80, q_80_0, t_88, q_88_0, t_90, q_90_0, t_92, q_92_0, q_92_1, q_92_2, i_92_3, p_92_3, i_92_4, p_92_4, t_96, q_96_0, i_96_1, p_96_1, i_96_2, p_96_2, i_96_3, p_96_3, t_100, q_100_0, i_100_1, p_100_1, i_100_2, p_100_2, i_100_3, p_100_3, t_104, q_104_1, q_104_2, q_104_3, q_104_4, q_104_5, q_104_6, q_104_8, q_104_9, q_104_11, q_104_12, q_104_18, q_104_21, q_104_22, q_104_23, q_104_24, q_104_26, q_104_27, q_104_28, q_104_30, q_104_31, i_104_0, p_104_0, i_104_7, p_104_7, i_104_10, p_104_10, i_104_13, p_104_13, i_104_14, p_104_14, i_104_15, p_104_15, i_104_16, p_104_16, i_104_17, p_104_17, i_104_19, p_104_19, i_104_20, p_104_20, i_104_25, p_104_25, i_104_29, p_104_29, a_2, w_2, a_81, w_81, a_89, w_89, a_91, w_91, a_93, w_93, a_94, w_94, a_95, w_95, a_105, w_105, a_106, w_106, a_107, w_107, a_108, w_108, a_109, w_109, a_110, w_110, a_111, w_111, a_112, w_112, a_113, w_113, a_114, w_114, a_115, w_115, a_116, w_116, a_117, w_117, a_118, w_118, a_119, w_119, a_120, w_120, a_121, w_121, a_122, w_122, a_123, w_123, a_124, w_124, hnb]
theorem op_order (h : Inv C nb A) {k i : Int} (hk : -2147483648 ≤ k ∧ k < 2147483648) (hi : -2147483648 ≤ i ∧ i < 2147483648) : ∃ (r : Int) (C1 C2 : Nat → Nat → Int), (∀ K, PX10_order (ad z 0) (J k) (J i) (lay z g C) K = K (J r) (lay z g C1)) ∧ (∀ K, PX11_order (ad z 104) (J k) (J i) (lay z g C1) K = K (J r)) ∧ C2 = C1 ∧ Inv C2 nb A := by
  obtain ⟨g1, g2, g3, g4, g5, g6, g7⟩ := h.2.1
  obtain ⟨k1, k2, k3⟩ := h.2.2.2.2.2.2.1
  by_cases c1 : 0 ≤ k ∧ k < 5
  · have sr := fun n (hn : n ≤ 24) => srtC_row (k := k) (P := fun _ => true) (s := 0) g5 h.2.2.2.2.2.2.2.1 (by omega) hn
    have so := fun n (hn : n ≤ 24) => srtA_ok (k := k) (P := fun _ => true) g5 hn
    have sne := fun n a (ha : a < 85 ∨ 85 + 2 < a) => srtC_ne (C := C) (k := k) (P := fun _ => true) (s := 0) (n := n) ha
    have sln := fun n => srtA_len (C := C) (k := k) (P := fun _ => true) n
    have sl : (srtA C k (fun _ => true) nb).1 = nb := by
      have := (so nb g1).count (fun _ => true)
      have e : ∀ n, cnt n (fun _ => true) = n := by
        intro n
        induction n with
        | zero => rfl
        | succ n ih => show cnt n _ + 1 = _; rw [ih]
      simp only [Bool.true_and] at this
      rw [e, e] at this
      exact this.symm
    have hbk : ∀ j : Nat, j < nb → bkAt (srtC C 85 k (fun _ => true) 0 nb) 85 j = (srtA C k (fun _ => true) nb).2.1 j := fun j hj => by
      have s := sr nb g1
      have s1 := s.1
      unfold bkAt
      rw [if_pos (by omega), Int.toNat_natCast, s.2.1 j (by omega)]
    have s1 := (sr nb g1).1
    have cl : ∀ K, PX10_order (ad z 0) (J k) (J i) (lay z g C) K = K (J (bkAt (srtC C 85 k (fun _ => true) 0 nb) 85 i)) (lay z g (srtC C 85 k (fun _ => true) 0 nb)) := by
      intro K
      unfold PX10_order
      simp (disch := omega) only [J_add, J_sub, J_mul, J_lt, J_le, J_eq, xbr_true, xbr_false, xbr_pos, xbr_neg, Int.toNat_natCast, all_eq, ex_eq, t_0, q_0_0, q_0_1, q_0_2, q_0_3, q_0_4, q_0_5, q_0_6, q_0_7, q_0_8, q_0_9, i_0_10, p_0_10, i_0_11, p_0_11, i_0_12, p_0_12, t_1, q_1_0, t_3, q_3_0, q_3_1, i_3_2, p_3_2, i_3_3, p_3_3, t_80, q_80_0, t_88, q_88_0, t_90, q_90_0, t_92, q_92_0, q_92_1, q_92_2, i_92_3, p_92_3, i_92_4, p_92_4, t_96, q_96_0, i_96_1, p_96_1, i_96_2, p_96_2, i_96_3, p_96_3, t_100, q_100_0, i_100_1, p_100_1, i_100_2, p_100_2, i_100_3, p_100_3, t_104, q_104_1, q_104_2, q_104_3, q_104_4, q_104_5, q_104_6, q_104_8, q_104_9, q_104_11, q_104_12, q_104_18, q_104_21, q_104_22, q_104_23, q_104_24, q_104_26, q_104_27, q_104_28, q_104_30, q_104_31, i_104_0, p_104_0, i_104_7, p_104_7, i_104_10, p_104_10, i_104_13, p_104_13, i_104_14, p_104_14, i_104_15, p_104_15, i_104_16, p_104_16, i_104_17, p_104_17, i_104_19, p_104_19, i_104_20, p_104_20, i_104_25, p_104_25, i_104_29, p_104_29, a_2, w_2, a_81, w_81, a_89, w_89, a_91, w_91, a_93, w_93, a_94, w_94, a_95, w_95, a_105, w_105, a_106, w_106, a_107, w_107, a_108, w_108, a_109, w_109, a_110, w_110, a_111, w_111, a_112, w_112, a_113, w_113, a_114, w_114, a_115, w_115, a_116, w_116, a_117, w_117, a_118, w_118, a_119, w_119, a_120, w_120, a_121, w_121, a_122, w_122, a_123, w_123, a_124, w_124, s_isReading, s_clear r85]
      refine lp_for (fun n : Nat => (lay z g (srtC C 85 k (fun _ => true) 0 n), J (n : Int))) 0 nb _ (by omega) ?_ ?_
      · intro n _ hn kc
        have e3 : srtC C 85 k (fun _ => true) 0 n 3 2 = nb := by rw [sne _ _ (by omega)]; exact g2
        have hb := g5.fr (C' := srtC C 85 k (fun _ => true) 0 n) (fun o _ _ => sne _ _ (by omega))
        have sp := (sr n (by omega)).spot (C := C) (fun o _ _ => sne _ _ (by omega)) n k
        have l := sln n
        have r := (sr n (by omega)).1
        have q := spotA_le C (srtA C k (fun _ => true) n) n k
        unfold BX10_order_20 CX10_order_20
        simp (disch := omega) only [J_add, J_sub, J_mul, J_lt, J_le, J_eq, xbr_true, xbr_false, xbr_pos, xbr_neg, Int.toNat_natCast, all_eq, ex_eq, t_0, q_0_0, q_0_1, q_0_2, q_0_3, q_0_4, q_0_5, q_0_6, q_0_7, q_0_8, q_0_9, i_0_10, p_0_10, i_0_11, p_0_11, i_0_12, p_0_12, t_1, q_1_0, t_3, q_3_0, q_3_1, i_3_2, p_3_2, i_3_3, p_3_3, t_80, q_80_0, t_88, q_88_0, t_90, q_90_0, t_92, q_92_0, q_92_1, q_92_2, i_92_3, p_92_3, i_92_4, p_92_4, t_96, q_96_0, i_96_1, p_96_1, i_96_2, p_96_2, i_96_3, p_96_3, t_100, q_100_0, i_100_1, p_100_1, i_100_2, p_100_2, i_100_3, p_100_3, t_104, q_104_1, q_104_2, q_104_3, q_104_4, q_104_5, q_104_6, q_104_8, q_104_9, q_104_11, q_104_12, q_104_18, q_104_21, q_104_22, q_104_23, q_104_24, q_104_26, q_104_27, q_104_28, q_104_30, q_104_31, i_104_0, p_104_0, i_104_7, p_104_7, i_104_10, p_104_10, i_104_13, p_104_13, i_104_14, p_104_14, i_104_15, p_104_15, i_104_16, p_104_16, i_104_17, p_104_17, i_104_19, p_104_19, i_104_20, p_104_20, i_104_25, p_104_25, i_104_29, p_104_29, a_2, w_2, a_81, w_81, a_89, w_89, a_91, w_91, a_93, w_93, a_94, w_94, a_95, w_95, a_105, w_105, a_106, w_106, a_107, w_107, a_108, w_108, a_109, w_109, a_110, w_110, a_111, w_111, a_112, w_112, a_113, w_113, a_114, w_114, a_115, w_115, a_116, w_116, a_117, w_117, a_118, w_118, a_119, w_119, a_120, w_120, a_121, w_121, a_122, w_122, a_123, w_123, a_124, w_124, s_nb, e3, s_spotFor hb r85 (sr n (by omega)).2.2.2.2, sp, s_insert r85]
        rfl
      · intro kc
        have e3 : srtC C 85 k (fun _ => true) 0 nb 3 2 = nb := by rw [sne _ _ (by omega)]; exact g2
        unfold BX10_order_20 CX10_order_20
        simp (disch := omega) only [J_add, J_sub, J_mul, J_lt, J_le, J_eq, xbr_true, xbr_false, xbr_pos, xbr_neg, Int.toNat_natCast, all_eq, ex_eq, t_0, q_0_0, q_0_1, q_0_2, q_0_3, q_0_4, q_0_5, q_0_6, q_0_7, q_0_8, q_0_9, i_0_10, p_0_10, i_0_11, p_0_11, i_0_12, p_0_12, t_1, q_1_0, t_3, q_3_0, q_3_1, i_3_2, p_3_2, i_3_3, p_3_3, t_80, q_80_0, t_88, q_88_0, t_90, q_90_0, t_92, q_92_0, q_92_1, q_92_2, i_92_3, p_92_3, i_92_4, p_92_4, t_96, q_96_0, i_96_1, p_96_1, i_96_2, p_96_2, i_96_3, p_96_3, t_100, q_100_0, i_100_1, p_100_1, i_100_2, p_100_2, i_100_3, p_100_3, t_104, q_104_1, q_104_2, q_104_3, q_104_4, q_104_5, q_104_6, q_104_8, q_104_9, q_104_11, q_104_12, q_104_18, q_104_21, q_104_22, q_104_23, q_104_24, q_104_26, q_104_27, q_104_28, q_104_30, q_104_31, i_104_0, p_104_0, i_104_7, p_104_7, i_104_10, p_104_10, i_104_13, p_104_13, i_104_14, p_104_14, i_104_15, p_104_15, i_104_16, p_104_16, i_104_17, p_104_17, i_104_19, p_104_19, i_104_20, p_104_20, i_104_25, p_104_25, i_104_29, p_104_29, a_2, w_2, a_81, w_81, a_89, w_89, a_91, w_91, a_93, w_93, a_94, w_94, a_95, w_95, a_105, w_105, a_106, w_106, a_107, w_107, a_108, w_108, a_109, w_109, a_110, w_110, a_111, w_111, a_112, w_112, a_113, w_113, a_114, w_114, a_115, w_115, a_116, w_116, a_117, w_117, a_118, w_118, a_119, w_119, a_120, w_120, a_121, w_121, a_122, w_122, a_123, w_123, a_124, w_124, s_nb, e3, s_bookAt r85 (sr nb g1).2.2.2.2]
    have f0 : srtC C 85 k (fun _ => true) 0 nb 104 0 = nb := by rw [sne _ _ (by omega)]; exact g4
    have fB := fun b hb => (g6 b hb).fr (C' := srtC C 85 k (fun _ => true) 0 nb) (by omega) (fun a _ _ => sne _ _ (by omega)) (fun a _ _ => sne _ _ (by omega))
    have fO := g5.fr (C' := srtC C 85 k (fun _ => true) 0 nb) (fun o _ _ => sne _ _ (by omega))
    have fK : ∀ b, b < 24 → ordK (srtC C 85 k (fun _ => true) 0 nb) b k = ordK C b k := fun b hb => by
      unfold ordK keyC
      rw [sne _ _ (by omega)]
    have rk : ∀ b, b < nb → ∃ j, j < nb ∧ (srtA C k (fun _ => true) nb).2.1 j = b ∧ cnt nb (fun a => decide (ordK (srtC C 85 k (fun _ => true) 0 nb) a k < ordK (srtC C 85 k (fun _ => true) 0 nb) b k)) = j := by
      intro b hb
      obtain ⟨j, hj1, hj2⟩ := (so nb g1).2.1 b hb rfl
      refine ⟨j, by omega, hj2, ?_⟩
      have e1 := (so nb g1).rank hj1
      rw [hj2] at e1
      have e2 := (so nb g1).count (fun a => decide (ordK C a k < ordK C b k))
      rw [← e2] at e1
      rw [← e1]
      exact cnt_congr fun a ha => by rw [fK a (by omega), fK b (by omega)]; rfl
    refine ⟨bkAt (srtC C 85 k (fun _ => true) 0 nb) 85 i, srtC C 85 k (fun _ => true) 0 nb, _, cl, fun K => ?_, rfl, ?_⟩
    · have key : ∀ n b, b + n = nb → (∀ x, x < b → cnt nb (fun a => decide (ordK (srtC C 85 k (fun _ => true) 0 nb) a k < ordK (srtC C 85 k (fun _ => true) 0 nb) x k)) ≠ i) → lp (BX11_order_13 K (lay z g (srtC C 85 k (fun _ => true) 0 nb)) (ad z 104) (J k) (J i)) (J (b : Nat)) = K (J (bkAt (srtC C 85 k (fun _ => true) 0 nb) 85 i)) := by
        intro n
        induction n with
        | zero =>
          intro b hb hx
          refine lp_for (fun _ : Nat => J (b : Int)) 0 0 _ (by omega) (fun j _ hj => by omega) ?_
          intro kc
          unfold BX11_order_13 CX11_order_13
          simp (disch := omega) only [J_add, J_sub, J_mul, J_lt, J_le, J_eq, xbr_true, xbr_false, xbr_pos, xbr_neg, Int.toNat_natCast, all_eq, ex_eq, t_0, q_0_0, q_0_1, q_0_2, q_0_3, q_0_4, q_0_5, q_0_6, q_0_7, q_0_8, q_0_9, i_0_10, p_0_10, i_0_11, p_0_11, i_0_12, p_0_12, t_1, q_1_0, t_3, q_3_0, q_3_1, i_3_2, p_3_2, i_3_3, p_3_3, t_80, q_80_0, t_88, q_88_0, t_90, q_90_0, t_92, q_92_0, q_92_1, q_92_2, i_92_3, p_92_3, i_92_4, p_92_4, t_96, q_96_0, i_96_1, p_96_1, i_96_2, p_96_2, i_96_3, p_96_3, t_100, q_100_0, i_100_1, p_100_1, i_100_2, p_100_2, i_100_3, p_100_3, t_104, q_104_1, q_104_2, q_104_3, q_104_4, q_104_5, q_104_6, q_104_8, q_104_9, q_104_11, q_104_12, q_104_18, q_104_21, q_104_22, q_104_23, q_104_24, q_104_26, q_104_27, q_104_28, q_104_30, q_104_31, i_104_0, p_104_0, i_104_7, p_104_7, i_104_10, p_104_10, i_104_13, p_104_13, i_104_14, p_104_14, i_104_15, p_104_15, i_104_16, p_104_16, i_104_17, p_104_17, i_104_19, p_104_19, i_104_20, p_104_20, i_104_25, p_104_25, i_104_29, p_104_29, a_2, w_2, a_81, w_81, a_89, w_89, a_91, w_91, a_93, w_93, a_94, w_94, a_95, w_95, a_105, w_105, a_106, w_106, a_107, w_107, a_108, w_108, a_109, w_109, a_110, w_110, a_111, w_111, a_112, w_112, a_113, w_113, a_114, w_114, a_115, w_115, a_116, w_116, a_117, w_117, a_118, w_118, a_119, w_119, a_120, w_120, a_121, w_121, a_122, w_122, a_123, w_123, a_124, w_124, f0]
          have : bkAt (srtC C 85 k (fun _ => true) 0 nb) 85 i = -1 := by
            unfold bkAt
            rw [if_neg]
            intro q
            obtain ⟨j, rfl⟩ : ∃ j : Nat, i = j := ⟨i.toNat, by omega⟩
            have hj : j < nb := by omega
            have := (so nb g1).1 j (by omega)
            obtain ⟨j', p1, p2, p3⟩ := rk _ this.1
            have := (so nb g1).inj j' j (by omega) (by omega) p2
            exact hx _ (by omega : (srtA C k (fun _ => true) nb).2.1 j < b) (by rw [p3, this])
          rw [this]
        | succ n ih =>
          intro b hb hx
          have cb := cnt_le nb (fun a => decide (ordK (srtC C 85 k (fun _ => true) 0 nb) a k < ordK (srtC C 85 k (fun _ => true) 0 nb) b k))
          have mr := fun K => m_rank (z := z) (g := g) (K := K) f0 g1 fB fO (b := b) (by omega) c1.1 c1.2
          by_cases c : ((cnt nb (fun a => decide (ordK (srtC C 85 k (fun _ => true) 0 nb) a k < ordK (srtC C 85 k (fun _ => true) 0 nb) b k)) : Nat) : Int) = i
          · refine lp_for (fun _ : Nat => J (b : Int)) 0 0 _ (by omega) (fun j _ hj => by omega) ?_
            intro kc
            obtain ⟨j, p1, p2, p3⟩ := rk b (by omega)
            have e := hbk j p1
            rw [p2] at e
            unfold BX11_order_13 CX11_order_13
            simp (disch := omega) only [J_add, J_sub, J_mul, J_lt, J_le, J_eq, xbr_true, xbr_false, xbr_pos, xbr_neg, Int.toNat_natCast, all_eq, ex_eq, t_0, q_0_0, q_0_1, q_0_2, q_0_3, q_0_4, q_0_5, q_0_6, q_0_7, q_0_8, q_0_9, i_0_10, p_0_10, i_0_11, p_0_11, i_0_12, p_0_12, t_1, q_1_0, t_3, q_3_0, q_3_1, i_3_2, p_3_2, i_3_3, p_3_3, t_80, q_80_0, t_88, q_88_0, t_90, q_90_0, t_92, q_92_0, q_92_1, q_92_2, i_92_3, p_92_3, i_92_4, p_92_4, t_96, q_96_0, i_96_1, p_96_1, i_96_2, p_96_2, i_96_3, p_96_3, t_100, q_100_0, i_100_1, p_100_1, i_100_2, p_100_2, i_100_3, p_100_3, t_104, q_104_1, q_104_2, q_104_3, q_104_4, q_104_5, q_104_6, q_104_8, q_104_9, q_104_11, q_104_12, q_104_18, q_104_21, q_104_22, q_104_23, q_104_24, q_104_26, q_104_27, q_104_28, q_104_30, q_104_31, i_104_0, p_104_0, i_104_7, p_104_7, i_104_10, p_104_10, i_104_13, p_104_13, i_104_14, p_104_14, i_104_15, p_104_15, i_104_16, p_104_16, i_104_17, p_104_17, i_104_19, p_104_19, i_104_20, p_104_20, i_104_25, p_104_25, i_104_29, p_104_29, a_2, w_2, a_81, w_81, a_89, w_89, a_91, w_91, a_93, w_93, a_94, w_94, a_95, w_95, a_105, w_105, a_106, w_106, a_107, w_107, a_108, w_108, a_109, w_109, a_110, w_110, a_111, w_111, a_112, w_112, a_113, w_113, a_114, w_114, a_115, w_115, a_116, w_116, a_117, w_117, a_118, w_118, a_119, w_119, a_120, w_120, a_121, w_121, a_122, w_122, a_123, w_123, a_124, w_124, f0, mr]
            rw [← c, p3, e]
          · rw [← ih (b + 1) (by omega) (fun x hx2 => by
              rcases Nat.lt_or_ge x b with d | d
              · exact hx x d
              · rw [show x = b by omega]; exact c)]
            refine lp_step (fun kc => ?_)
            unfold BX11_order_13 CX11_order_13
            simp (disch := omega) only [J_add, J_sub, J_mul, J_lt, J_le, J_eq, xbr_true, xbr_false, xbr_pos, xbr_neg, Int.toNat_natCast, all_eq, ex_eq, t_0, q_0_0, q_0_1, q_0_2, q_0_3, q_0_4, q_0_5, q_0_6, q_0_7, q_0_8, q_0_9, i_0_10, p_0_10, i_0_11, p_0_11, i_0_12, p_0_12, t_1, q_1_0, t_3, q_3_0, q_3_1, i_3_2, p_3_2, i_3_3, p_3_3, t_80, q_80_0, t_88, q_88_0, t_90, q_90_0, t_92, q_92_0, q_92_1, q_92_2, i_92_3, p_92_3, i_92_4, p_92_4, t_96, q_96_0, i_96_1, p_96_1, i_96_2, p_96_2, i_96_3, p_96_3, t_100, q_100_0, i_100_1, p_100_1, i_100_2, p_100_2, i_100_3, p_100_3, t_104, q_104_1, q_104_2, q_104_3, q_104_4, q_104_5, q_104_6, q_104_8, q_104_9, q_104_11, q_104_12, q_104_18, q_104_21, q_104_22, q_104_23, q_104_24, q_104_26, q_104_27, q_104_28, q_104_30, q_104_31, i_104_0, p_104_0, i_104_7, p_104_7, i_104_10, p_104_10, i_104_13, p_104_13, i_104_14, p_104_14, i_104_15, p_104_15, i_104_16, p_104_16, i_104_17, p_104_17, i_104_19, p_104_19, i_104_20, p_104_20, i_104_25, p_104_25, i_104_29, p_104_29, a_2, w_2, a_81, w_81, a_89, w_89, a_91, w_91, a_93, w_93, a_94, w_94, a_95, w_95, a_105, w_105, a_106, w_106, a_107, w_107, a_108, w_108, a_109, w_109, a_110, w_110, a_111, w_111, a_112, w_112, a_113, w_113, a_114, w_114, a_115, w_115, a_116, w_116, a_117, w_117, a_118, w_118, a_119, w_119, a_120, w_120, a_121, w_121, a_122, w_122, a_123, w_123, a_124, w_124, f0, mr]
            rfl
      unfold PX11_order
      simp (disch := omega) only [J_add, J_sub, J_mul, J_lt, J_le, J_eq, xbr_true, xbr_false, xbr_pos, xbr_neg, Int.toNat_natCast, all_eq, ex_eq, t_0, q_0_0, q_0_1, q_0_2, q_0_3, q_0_4, q_0_5, q_0_6, q_0_7, q_0_8, q_0_9, i_0_10, p_0_10, i_0_11, p_0_11, i_0_12, p_0_12, t_1, q_1_0, t_3, q_3_0, q_3_1, i_3_2, p_3_2, i_3_3, p_3_3, t_80, q_80_0, t_88, q_88_0, t_90, q_90_0, t_92, q_92_0, q_92_1, q_92_2, i_92_3, p_92_3, i_92_4, p_92_4, t_96, q_96_0, i_96_1, p_96_1, i_96_2, p_96_2, i_96_3, p_96_3, t_100, q_100_0, i_100_1, p_100_1, i_100_2, p_100_2, i_100_3, p_100_3, t_104, q_104_1, q_104_2, q_104_3, q_104_4, q_104_5, q_104_6, q_104_8, q_104_9, q_104_11, q_104_12, q_104_18, q_104_21, q_104_22, q_104_23, q_104_24, q_104_26, q_104_27, q_104_28, q_104_30, q_104_31, i_104_0, p_104_0, i_104_7, p_104_7, i_104_10, p_104_10, i_104_13, p_104_13, i_104_14, p_104_14, i_104_15, p_104_15, i_104_16, p_104_16, i_104_17, p_104_17, i_104_19, p_104_19, i_104_20, p_104_20, i_104_25, p_104_25, i_104_29, p_104_29, a_2, w_2, a_81, w_81, a_89, w_89, a_91, w_91, a_93, w_93, a_94, w_94, a_95, w_95, a_105, w_105, a_106, w_106, a_107, w_107, a_108, w_108, a_109, w_109, a_110, w_110, a_111, w_111, a_112, w_112, a_113, w_113, a_114, w_114, a_115, w_115, a_116, w_116, a_117, w_117, a_118, w_118, a_119, w_119, a_120, w_120, a_121, w_121, a_122, w_122, a_123, w_123, a_124, w_124, m_isReading]
      exact key nb 0 (by omega) (fun x hx => by omega)
    · refine h.work (fun a ha => ?_) (fun j hj => ?_) (h.2.2.2.2.2.2.1.fr (fun a _ _ => sne _ _ (by omega)) (by rw [sne _ _ (by omega)]) (sne _ _ (by omega)) (sne _ _ (by omega))) (sr nb g1).2.2.2.2
      · unfold freeO at ha
        exact sne _ _ (by omega)
      · rw [sne _ _ (by omega)]
  · refine ⟨-1001, C, C, fun K => ?_, fun K => ?_, rfl, h⟩
    · unfold PX10_order
      simp (disch := omega) only [J_add, J_sub, J_mul, J_lt, J_le, J_eq, xbr_true, xbr_false, xbr_pos, xbr_neg, Int.toNat_natCast, all_eq, ex_eq, t_0, q_0_0, q_0_1, q_0_2, q_0_3, q_0_4, q_0_5, q_0_6, q_0_7, q_0_8, q_0_9, i_0_10, p_0_10, i_0_11, p_0_11, i_0_12, p_0_12, t_1, q_1_0, t_3, q_3_0, q_3_1, i_3_2, p_3_2, i_3_3, p_3_3, t_80, q_80_0, t_88, q_88_0, t_90, q_90_0, t_92, q_92_0, q_92_1, q_92_2, i_92_3, p_92_3, i_92_4, p_92_4, t_96, q_96_0, i_96_1, p_96_1, i_96_2, p_96_2, i_96_3, p_96_3, t_100, q_100_0, i_100_1, p_100_1, i_100_2, p_100_2, i_100_3, p_100_3, t_104, q_104_1, q_104_2, q_104_3, q_104_4, q_104_5, q_104_6, q_104_8, q_104_9, q_104_11, q_104_12, q_104_18, q_104_21, q_104_22, q_104_23, q_104_24, q_104_26, q_104_27, q_104_28, q_104_30, q_104_31, i_104_0, p_104_0, i_104_7, p_104_7, i_104_10, p_104_10, i_104_13, p_104_13, i_104_14, p_104_14, i_104_15, p_104_15, i_104_16, p_104_16, i_104_17, p_104_17, i_104_19, p_104_19, i_104_20, p_104_20, i_104_25, p_104_25, i_104_29, p_104_29, a_2, w_2, a_81, w_81, a_89, w_89, a_91, w_91, a_93, w_93, a_94, w_94, a_95, w_95, a_105, w_105, a_106, w_106, a_107, w_107, a_108, w_108, a_109, w_109, a_110, w_110, a_111, w_111, a_112, w_112, a_113, w_113, a_114, w_114, a_115, w_115, a_116, w_116, a_117, w_117, a_118, w_118, a_119, w_119, a_120, w_120, a_121, w_121, a_122, w_122, a_123, w_123, a_124, w_124, s_isReading]
    · unfold PX11_order
      simp (disch := omega) only [J_add, J_sub, J_mul, J_lt, J_le, J_eq, xbr_true, xbr_false, xbr_pos, xbr_neg, Int.toNat_natCast, all_eq, ex_eq, t_0, q_0_0, q_0_1, q_0_2, q_0_3, q_0_4, q_0_5, q_0_6, q_0_7, q_0_8, q_0_9, i_0_10, p_0_10, i_0_11, p_0_11, i_0_12, p_0_12, t_1, q_1_0, t_3, q_3_0, q_3_1, i_3_2, p_3_2, i_3_3, p_3_3, t_80, q_80_0, t_88, q_88_0, t_90, q_90_0, t_92, q_92_0, q_92_1, q_92_2, i_92_3, p_92_3, i_92_4, p_92_4, t_96, q_96_0, i_96_1, p_96_1, i_96_2, p_96_2, i_96_3, p_96_3, t_100, q_100_0, i_100_1, p_100_1, i_100_2, p_100_2, i_100_3, p_100_3, t_104, q_104_1, q_104_2, q_104_3, q_104_4, q_104_5, q_104_6, q_104_8, q_104_9, q_104_11, q_104_12, q_104_18, q_104_21, q_104_22, q_104_23, q_104_24, q_104_26, q_104_27, q_104_28, q_104_30, q_104_31, i_104_0, p_104_0, i_104_7, p_104_7, i_104_10, p_104_10, i_104_13, p_104_13, i_104_14, p_104_14, i_104_15, p_104_15, i_104_16, p_104_16, i_104_17, p_104_17, i_104_19, p_104_19, i_104_20, p_104_20, i_104_25, p_104_25, i_104_29, p_104_29, a_2, w_2, a_81, w_81, a_89, w_89, a_91, w_91, a_93, w_93, a_94, w_94, a_95, w_95, a_105, w_105, a_106, w_106, a_107, w_107, a_108, w_108, a_109, w_109, a_110, w_110, a_111, w_111, a_112, w_112, a_113, w_113, a_114, w_114, a_115, w_115, a_116, w_116, a_117, w_117, a_118, w_118, a_119, w_119, a_120, w_120, a_121, w_121, a_122, w_122, a_123, w_123, a_124, w_124, m_isReading]
end ORD
