/-! mend -/
theorem orS_nat (n : Nat) (hn : n ≤ 24) (f : Nat → Bool) : ∃ m : Nat, m < 2 ^ n ∧ orS n f = J (m : Int) := by
  induction n with
  | zero => exact ⟨0, by simp, rfl⟩
  | succ n ih =>
    obtain ⟨m, h1, h2⟩ := ih (by omega)
    show ∃ m : Nat, m < 2 ^ (n + 1) ∧ (if f n then orS n f ||| (J 1 <<< (J (n : Nat) &&& 31)) else orS n f) = J (m : Int)
    have h3 : 2 ^ (n + 1) = 2 ^ n + 2 ^ n := by rw [Nat.pow_succ]; omega
    by_cases c : f n = true
    · rw [if_pos c, h2, shl1 n (by omega), J_or]
      exact ⟨m ||| 2 ^ n, Nat.or_lt_two_pow (by omega) (by omega), rfl⟩
    · rw [if_neg c]
      exact ⟨m, by omega, h2⟩
def inA (A : Rw) (x : Nat) : Prop := ∃ i, i < A.1 ∧ A.2.1 i = x
theorem inA_idx {A : Rw} {x : Nat} : inA A x ↔ idx A x < A.1 := by
  constructor
  · rintro ⟨i, h1, h2⟩
    rcases Nat.lt_or_ge (idx A x) A.1 with c | c
    · exact c
    · exact absurd h2 (idx_out (by omega) i h1)
  · exact fun h => ⟨_, h, idx_at h⟩
theorem inA_not {A : Rw} {x : Nat} (h : ¬ inA A x) : ∀ i, i < A.1 → A.2.1 i ≠ x := fun i hi e => h ⟨i, hi, e⟩
theorem inA_rmv {A : Rw} {nb p x : Nat} (hA : RwOk A nb) (hp : p < A.1) : inA (rmvA A p) x ↔ inA A x ∧ x ≠ A.2.1 p := by
  constructor
  · rintro ⟨i, h1, h2⟩
    have h1' : i < A.1 - 1 := h1
    have h2' : (if i < p then A.2.1 i else A.2.1 (i + 1)) = x := h2
    by_cases c : i < p
    · rw [if_pos c] at h2'
      exact ⟨⟨i, by omega, h2'⟩, fun e => by have := hA.2.1 i p (by omega) hp (by rw [h2', e]); omega⟩
    · rw [if_neg c] at h2'
      exact ⟨⟨i + 1, by omega, h2'⟩, fun e => by have := hA.2.1 (i + 1) p (by omega) hp (by rw [h2', e]); omega⟩
  · rintro ⟨⟨i, h1, h2⟩, h3⟩
    have hip : i ≠ p := fun e => h3 (by rw [← h2, e])
    by_cases c : i < p
    · exact ⟨i, by show i < A.1 - 1; omega, by show (if i < p then A.2.1 i else _) = x; rw [if_pos c]; exact h2⟩
    · refine ⟨i - 1, by show i - 1 < A.1 - 1; omega, ?_⟩
      show (if i - 1 < p then A.2.1 (i - 1) else A.2.1 (i - 1 + 1)) = x
      rw [if_neg (by omega), show i - 1 + 1 = i by omega]; exact h2
theorem inA_ins {A : Rw} {i b s x : Nat} (hi : i ≤ A.1) : inA (insA A i b s) x ↔ inA A x ∨ x = b := by
  constructor
  · rintro ⟨j, h1, h2⟩
    have h1' : j < A.1 + 1 := h1
    have h2' : (if j < i then A.2.1 j else if j = i then b else A.2.1 (j - 1)) = x := h2
    by_cases c : j < i
    · rw [if_pos c] at h2'; exact Or.inl ⟨j, by omega, h2'⟩
    · rw [if_neg c] at h2'
      by_cases c2 : j = i
      · rw [if_pos c2] at h2'; exact Or.inr h2'.symm
      · rw [if_neg c2] at h2'; exact Or.inl ⟨j - 1, by omega, h2'⟩
  · rintro (⟨j, h1, h2⟩ | h)
    · by_cases c : j < i
      · exact ⟨j, by show j < A.1 + 1; omega, by show (if j < i then A.2.1 j else _) = x; rw [if_pos c]; exact h2⟩
      · refine ⟨j + 1, by show j + 1 < A.1 + 1; omega, ?_⟩
        show (if j + 1 < i then A.2.1 (j + 1) else if j + 1 = i then b else A.2.1 (j + 1 - 1)) = x
        rw [if_neg (by omega), if_neg (by omega)]; exact h2
    · refine ⟨i, by show i < A.1 + 1; omega, ?_⟩
      show (if i < i then A.2.1 i else if i = i then b else A.2.1 (i - 1)) = x
      rw [if_neg (by omega), if_pos rfl]; exact h.symm
theorem inA_put {W w : Nat → Int} {C : Nat → Nat → Int} {A : Rw} {nb b x : Nat} {k : Int} (hA : RwOk A nb) (hb : b < nb) (hq : ¬ inA A b) : inA (putA W w C A b k).2 x ↔ inA A x ∨ x = b := by
  obtain ⟨p1, p2, p3⟩ := putA_ok (W := W) (w := w) (C := C) (k := k) hA hb (inA_not hq)
  have h := inA_ins (A := A) (i := spotA C A b k) (b := b) (s := spotS A (spotA C A b k)) (x := x) (spotA_le C A b k)
  unfold inA at h ⊢
  rw [p2, p3]
  exact h
/-- taken out, one after the other -/
def RmA (A : Rw) (w : Nat → Bool) : Nat → Rw
  | 0 => A
  | b + 1 => if w b then rmvA (RmA A w b) (idx (RmA A w b) b) else RmA A w b
def RmC (C : Nat → Nat → Int) (r : Nat) (A : Rw) (w : Nat → Bool) : Nat → Nat → Nat → Int
  | 0 => C
  | b + 1 => if w b then rmC (RmC C r A w b) r (idx (RmA A w b) b) b else RmC C r A w b
def RmM (C : Nat → Nat → Int) (A : Rw) (w : Nat → Bool) : Nat → Nat → Nat → Int
  | 0 => C
  | b + 1 => if w b then pullM (RmM C A w b) (idx (RmA A w b) b) (shAt (RmA A w b).2.2 (idx (RmA A w b) b)) ((RmA A w b).1 - 1) else RmM C A w b
/-- put, one after the other -/
def PtA (W w : Nat → Int) (C : Nat → Nat → Int) (A : Rw) (f : Nat → Bool) : Nat → Rw
  | 0 => A
  | b + 1 => if f b then (putA W w C (PtA W w C A f b) b 0).2 else PtA W w C A f b
def PtC (W w : Nat → Int) (C : Nat → Nat → Int) (A : Rw) (f : Nat → Bool) (D : Nat → Nat → Int) : Nat → Nat → Nat → Int
  | 0 => D
  | b + 1 => if f b then shC (insC (PtC W w C A f D b) 85 (spotA C (PtA W w C A f b) b 0) b (spotS (PtA W w C A f b) (spotA C (PtA W w C A f b) b 0))) 85 (putA W w C (PtA W w C A f b) b 0).2 else PtC W w C A f D b
def PtM (W w : Nat → Int) (C : Nat → Nat → Int) (A : Rw) (f : Nat → Bool) (D : Nat → Nat → Int) : Nat → Nat → Nat → Int
  | 0 => D
  | b + 1 => if f b then onC (insM (PtM W w C A f D b) (spotA C (PtA W w C A f b) b 0) b (spotS (PtA W w C A f b) (spotA C (PtA W w C A f b) b 0))) (putA W w C (PtA W w C A f b) b 0).2 else PtM W w C A f D b
/-- the first that can't be put -/
def PtF (W w : Nat → Int) (C : Nat → Nat → Int) (A : Rw) (f : Nat → Bool) (n : Nat) : Nat := fst1 n (fun b => f b && !(putA W w C (PtA W w C A f b) b 0).1)
section RMV
variable {W w' : Nat → Int} {C D : Nat → Nat → Int} {A : Rw} {w f : Nat → Bool} {nb b : Nat}
theorem RmC_ne {r a : Nat} (h : a < r ∨ r + 2 < a) : RmC C r A w b a = C a := by
  induction b with
  | zero => rfl
  | succ b ih =>
    show (if w b then rmC (RmC C r A w b) r (idx (RmA A w b) b) b else RmC C r A w b) a = _
    split
    · rw [rmC_ne h, ih]
    · exact ih
theorem RmM_ne {a : Nat} (h : a ≠ 104 ∧ a ≠ 111 ∧ a ≠ 112) : RmM C A w b a = C a := by
  induction b with
  | zero => rfl
  | succ b ih =>
    show (if w b then pullM (RmM C A w b) (idx (RmA A w b) b) (shAt (RmA A w b).2.2 (idx (RmA A w b) b)) ((RmA A w b).1 - 1) else RmM C A w b) a = _
    split
    · rw [pullM_ne h, ih]
    · exact ih
theorem RmM_104 {j : Nat} (h : j ≠ 7) : RmM C A w b 104 j = C 104 j := by
  induction b with
  | zero => rfl
  | succ b ih =>
    show (if w b then pullM (RmM C A w b) (idx (RmA A w b) b) (shAt (RmA A w b).2.2 (idx (RmA A w b) b)) ((RmA A w b).1 - 1) else RmM C A w b) 104 j = _
    split
    · rw [pullM_104 h, ih]
    · exact ih
theorem PtC_ne {a : Nat} (h : a < 85 ∨ 87 < a) : PtC W w' C A f D b a = D a := by
  induction b with
  | zero => rfl
  | succ b ih =>
    show (if f b then shC (insC (PtC W w' C A f D b) 85 (spotA C (PtA W w' C A f b) b 0) b (spotS (PtA W w' C A f b) (spotA C (PtA W w' C A f b) b 0))) 85 (putA W w' C (PtA W w' C A f b) b 0).2 else PtC W w' C A f D b) a = _
    split
    · rw [shC_ne (by omega), insC_ne (by omega), ih]
    · exact ih
theorem PtM_ne {a : Nat} (h : a ≠ 104 ∧ a ≠ 111 ∧ a ≠ 112) : PtM W w' C A f D b a = D a := by
  induction b with
  | zero => rfl
  | succ b ih =>
    show (if f b then onC (insM (PtM W w' C A f D b) (spotA C (PtA W w' C A f b) b 0) b (spotS (PtA W w' C A f b) (spotA C (PtA W w' C A f b) b 0))) (putA W w' C (PtA W w' C A f b) b 0).2 else PtM W w' C A f D b) a = _
    split
    · rw [onC_ne (by omega), insM_ne h, ih]
    · exact ih
theorem PtM_104 {j : Nat} (h : j ≠ 7) : PtM W w' C A f D b 104 j = D 104 j := by
  induction b with
  | zero => rfl
  | succ b ih =>
    show (if f b then onC (insM (PtM W w' C A f D b) (spotA C (PtA W w' C A f b) b 0) b (spotS (PtA W w' C A f b) (spotA C (PtA W w' C A f b) b 0))) (putA W w' C (PtA W w' C A f b) b 0).2 else PtM W w' C A f D b) 104 j = _
    split
    · rw [onC_ne (by omega), insM_104 h, ih]
    · exact ih
theorem RmA_ok (hA : RwOk A nb) (hw : ∀ x, w x = true → inA A x) : RwOk (RmA A w b) nb ∧ ∀ x, inA (RmA A w b) x ↔ (inA A x ∧ ¬ (x < b ∧ w x = true)) := by
  induction b with
  | zero => exact ⟨hA, fun x => ⟨fun h => ⟨h, by omega⟩, fun h => h.1⟩⟩
  | succ b ih =>
    obtain ⟨i1, i2⟩ := ih
    show RwOk (if w b then rmvA (RmA A w b) (idx (RmA A w b) b) else RmA A w b) nb ∧ ∀ x, inA (if w b then rmvA (RmA A w b) (idx (RmA A w b) b) else RmA A w b) x ↔ _
    by_cases c : w b = true
    · rw [if_pos c]
      have hin : inA (RmA A w b) b := (i2 b).mpr ⟨hw b c, by omega⟩
      have hix := inA_idx.mp hin
      refine ⟨i1.rmv hix, fun x => ?_⟩
      rw [inA_rmv i1 hix, i2 x, idx_at hix]
      constructor
      · rintro ⟨⟨h1, h2⟩, h3⟩
        refine ⟨h1, fun q => ?_⟩
        rcases Nat.lt_or_ge x b with d | d
        · exact h2 ⟨d, q.2⟩
        · exact h3 (by omega)
      · rintro ⟨h1, h2⟩
        exact ⟨⟨h1, fun q => h2 ⟨by omega, q.2⟩⟩, fun e => h2 ⟨by omega, by rw [e]; exact c⟩⟩
    · rw [if_neg c]
      refine ⟨i1, fun x => ?_⟩
      rw [i2 x]
      constructor
      · rintro ⟨h1, h2⟩
        refine ⟨h1, fun q => ?_⟩
        rcases Nat.lt_or_ge x b with d | d
        · exact h2 ⟨d, q.2⟩
        · have : x = b := by omega
          rw [this] at q; exact c q.2
      · rintro ⟨h1, h2⟩
        exact ⟨h1, fun q => h2 ⟨by omega, q.2⟩⟩
theorem RmC_row {r : Nat} (h : RowC C r A) (hA : RwOk A nb) (hn : nb ≤ 24) (hw : ∀ x, w x = true → inA A x) : RowC (RmC C r A w b) r (RmA A w b) := by
  induction b with
  | zero => exact h
  | succ b ih =>
    obtain ⟨i1, i2⟩ := RmA_ok (b := b) hA hw
    show RowC (if w b then rmC (RmC C r A w b) r (idx (RmA A w b) b) b else RmC C r A w b) r (if w b then rmvA (RmA A w b) (idx (RmA A w b) b) else RmA A w b)
    by_cases c : w b = true
    · rw [if_pos c, if_pos c]
      have hix := inA_idx.mp ((i2 b).mpr ⟨hw b c, by omega⟩)
      have h2 := ih.rmv i1 hn hix
      rw [idx_at hix] at h2
      exact h2
    · rw [if_neg c, if_neg c]; exact ih
theorem RmM_row (h : RowM C A) (hA : RwOk A nb) (hw : ∀ x, w x = true → inA A x) : RowM (RmM C A w b) (RmA A w b) := by
  induction b with
  | zero => exact h
  | succ b ih =>
    obtain ⟨i1, i2⟩ := RmA_ok (b := b) hA hw
    show RowM (if w b then pullM (RmM C A w b) (idx (RmA A w b) b) (shAt (RmA A w b).2.2 (idx (RmA A w b) b)) ((RmA A w b).1 - 1) else RmM C A w b) (if w b then rmvA (RmA A w b) (idx (RmA A w b) b) else RmA A w b)
    by_cases c : w b = true
    · rw [if_pos c, if_pos c]
      have hix := inA_idx.mp ((i2 b).mpr ⟨hw b c, by omega⟩)
      exact ih.rmv i1 hix
    · rw [if_neg c, if_neg c]; exact ih
theorem PtA_ok (hA : RwOk A nb) (hf : ∀ x, f x = true → x < nb ∧ ¬ inA A x) : RwOk (PtA W w' C A f b) nb ∧ ∀ x, inA (PtA W w' C A f b) x ↔ (inA A x ∨ (x < b ∧ f x = true)) := by
  induction b with
  | zero => exact ⟨hA, fun x => ⟨fun h => Or.inl h, fun h => by rcases h with h | h; exact h; omega⟩⟩
  | succ b ih =>
    obtain ⟨i1, i2⟩ := ih
    show RwOk (if f b then (putA W w' C (PtA W w' C A f b) b 0).2 else PtA W w' C A f b) nb ∧ ∀ x, inA (if f b then (putA W w' C (PtA W w' C A f b) b 0).2 else PtA W w' C A f b) x ↔ _
    by_cases c : f b = true
    · rw [if_pos c]
      have hin : ¬ inA (PtA W w' C A f b) b := fun q => by
        rcases (i2 b).mp q with h | h
        · exact (hf b c).2 h
        · omega
      refine ⟨(putA_ok i1 (hf b c).1 (inA_not hin)).1, fun x => ?_⟩
      rw [inA_put i1 (hf b c).1 hin, i2 x]
      constructor
      · rintro ((h1 | h1) | h1)
        · exact Or.inl h1
        · exact Or.inr ⟨by omega, h1.2⟩
        · exact Or.inr ⟨by omega, by rw [h1]; exact c⟩
      · rintro (h1 | h1)
        · exact Or.inl (Or.inl h1)
        · rcases Nat.lt_or_ge x b with d | d
          · exact Or.inl (Or.inr ⟨d, h1.2⟩)
          · exact Or.inr (by omega)
    · rw [if_neg c]
      refine ⟨i1, fun x => ?_⟩
      rw [i2 x]
      constructor
      · rintro (h1 | h1)
        · exact Or.inl h1
        · exact Or.inr ⟨by omega, h1.2⟩
      · rintro (h1 | h1)
        · exact Or.inl h1
        · rcases Nat.lt_or_ge x b with d | d
          · exact Or.inr ⟨d, h1.2⟩
          · have : x = b := by omega
            rw [this] at h1; exact absurd h1.2 c
theorem PtA_out (hA : RwOk A nb) (hf : ∀ x, f x = true → x < nb ∧ ¬ inA A x) (c : f b = true) : ∀ i, i < (PtA W w' C A f b).1 → (PtA W w' C A f b).2.1 i ≠ b := inA_not fun q => by
  rcases ((PtA_ok hA hf).2 b).mp q with h | h
  · exact (hf b c).2 h
  · omega
theorem PtC_row (h : RowC D 85 A) (hA : RwOk A nb) (hn : nb ≤ 24) (hf : ∀ x, f x = true → x < nb ∧ ¬ inA A x) : RowC (PtC W w' C A f D b) 85 (PtA W w' C A f b) := by
  induction b with
  | zero => exact h
  | succ b ih =>
    obtain ⟨i1, i2⟩ := PtA_ok (W := W) (w' := w') (C := C) (b := b) hA hf
    show RowC (if f b then shC (insC (PtC W w' C A f D b) 85 (spotA C (PtA W w' C A f b) b 0) b (spotS (PtA W w' C A f b) (spotA C (PtA W w' C A f b) b 0))) 85 (putA W w' C (PtA W w' C A f b) b 0).2 else PtC W w' C A f D b) 85 (if f b then (putA W w' C (PtA W w' C A f b) b 0).2 else PtA W w' C A f b)
    by_cases c : f b = true
    · rw [if_pos c, if_pos c]
      have hq := PtA_out (W := W) (w' := w') (C := C) hA hf c
      obtain ⟨s1, s2, s3⟩ := spotS_b i1 (spotA_le C (PtA W w' C A f b) b 0)
      obtain ⟨p1, p2, p3⟩ := putA_ok (W := W) (w := w') (C := C) (k := 0) i1 (hf b c).1 hq
      exact (ih.ins i1 hn (hf b c).1 hq (spotA_le C (PtA W w' C A f b) b 0) s1 s2 s3).shC p2 p3 p1 hn
    · rw [if_neg c, if_neg c]; exact ih
theorem PtM_row (h : RowM D A) (hA : RwOk A nb) (hn : nb ≤ 24) (hf : ∀ x, f x = true → x < nb ∧ ¬ inA A x) : RowM (PtM W w' C A f D b) (PtA W w' C A f b) := by
  induction b with
  | zero => exact h
  | succ b ih =>
    obtain ⟨i1, i2⟩ := PtA_ok (W := W) (w' := w') (C := C) (b := b) hA hf
    show RowM (if f b then onC (insM (PtM W w' C A f D b) (spotA C (PtA W w' C A f b) b 0) b (spotS (PtA W w' C A f b) (spotA C (PtA W w' C A f b) b 0))) (putA W w' C (PtA W w' C A f b) b 0).2 else PtM W w' C A f D b) (if f b then (putA W w' C (PtA W w' C A f b) b 0).2 else PtA W w' C A f b)
    by_cases c : f b = true
    · rw [if_pos c, if_pos c]
      have hq := PtA_out (W := W) (w' := w') (C := C) hA hf c
      have hroom := i1.room (hf b c).1 hq
      obtain ⟨p1, p2, p3⟩ := putA_ok (W := W) (w := w') (C := C) (k := 0) i1 (hf b c).1 hq
      exact (ih.ins (spotA_le C (PtA W w' C A f b) b 0) (by omega)).onC p2 p3
    · rw [if_neg c, if_neg c]; exact ih
theorem PtA_same (hf : ∀ x, f x = true → x < nb) {b : Nat} (h : nb ≤ b) : PtA W w' C A f b = PtA W w' C A f nb := by
  obtain ⟨d, rfl⟩ : ∃ d, b = nb + d := ⟨b - nb, by omega⟩
  induction d with
  | zero => rfl
  | succ d ih =>
    show (if f (nb + d) then _ else PtA W w' C A f (nb + d)) = _
    rw [if_neg (fun q => by have := hf _ q; omega)]
    exact ih (by omega)
end RMV
section MEND
variable {z : Nat} {g : Mem} {C C' D : Nat → Nat → Int} {nb b : Nat} {A A0 : Rw} {f : Nat → Bool}
theorem bt_f (hb : b < 24) : bt (orS 24 f) b = f b := by rw [bt_orS (by omega) (by omega)]; simp [hb]
theorem s_mend29 {K : Int32 → Mem → Prop} (k1 : RowC C 85 A) (k3 : RwOk A nb) (hn : nb ≤ 24) (hw : ∀ x, f x = true → inA A x) : lp (BX10_mend_29 K (ad z 0) (orS 24 f)) (lay z g C, J 0) = lp (BX10_mend_59 K (ad z 0) (orS 24 f)) (lay z g (RmC C 85 A f 24), J 0) := by
  refine lp_for (fun b : Nat => (lay z g (RmC C 85 A f b), J (b : Int))) 0 24 _ (by omega) ?_ ?_
  · intro b _ hb kc
    have hbt := bt_f (f := f) hb
    obtain ⟨i1, i2⟩ := RmA_ok (b := b) k3 hw
    have kr := RmC_row (b := b) k1 k3 hn hw
    unfold BX10_mend_29 CX10_mend_29
    by_cases c : f b = true
    · have hix := inA_idx.mp ((i2 b).mpr ⟨hw b c, by omega⟩)
      have e : RmC C 85 A f (b + 1) = rmC (RmC C 85 A f b) 85 (idx (RmA A f b) b) b := by
        show (if f b then _ else _) = _
        rw [if_pos c]
      have hl := kr.1
      have hfx := kr.fst b
      rw [e]
      simp (disch := omega) only [J_add, J_sub, J_mul, J_lt, J_le, J_eq, xbr_true, xbr_false, xbr_pos, xbr_neg, Int.toNat_natCast, all_eq, ex_eq, t_0, q_0_0, q_0_1, q_0_2, q_0_3, q_0_4, q_0_5, q_0_6, q_0_7, q_0_8, q_0_9, i_0_10, p_0_10, i_0_11, p_0_11, i_0_12, p_0_12, t_1, q_1_0, t_3, q_3_0, q_3_1, i_3_2, p_3_2, i_3_3, p_3_3, t_80, q_80_0, t_88, q_88_0, t_90, q_90_0, t_92, q_92_0, q_92_1, q_92_2, i_92_3, p_92_3, i_92_4, p_92_4, t_96, q_96_0, i_96_1, p_96_1, i_96_2, p_96_2, i_96_3, p_96_3, t_100, q_100_0, i_100_1, p_100_1, i_100_2, p_100_2, i_100_3, p_100_3, t_104, q_104_1, q_104_2, q_104_3, q_104_4, q_104_5, q_104_6, q_104_8, q_104_9, q_104_11, q_104_12, q_104_18, q_104_21, q_104_22, q_104_23, q_104_24, q_104_26, q_104_27, q_104_28, q_104_30, q_104_31, i_104_0, p_104_0, i_104_7, p_104_7, i_104_10, p_104_10, i_104_13, p_104_13, i_104_14, p_104_14, i_104_15, p_104_15, i_104_16, p_104_16, i_104_17, p_104_17, i_104_19, p_104_19, i_104_20, p_104_20, i_104_25, p_104_25, i_104_29, p_104_29, a_2, w_2, a_81, w_81, a_89, w_89, a_91, w_91, a_93, w_93, a_94, w_94, a_95, w_95, a_105, w_105, a_106, w_106, a_107, w_107, a_108, w_108, a_109, w_109, a_110, w_110, a_111, w_111, a_112, w_112, a_113, w_113, a_114, w_114, a_115, w_115, a_116, w_116, a_117, w_117, a_118, w_118, a_119, w_119, a_120, w_120, a_121, w_121, a_122, w_122, a_123, w_123, a_124, w_124, s_isIn hb, hbt, if_pos c, s_remove r85 kr.2.2.2.2 (p := idx (RmA A f b) b) (b := b) (by omega) hb hfx]
      rfl
    · have e : RmC C 85 A f (b + 1) = RmC C 85 A f b := by
        show (if f b then _ else _) = _
        rw [if_neg c]
      rw [e]
      simp (disch := omega) only [J_add, J_sub, J_mul, J_lt, J_le, J_eq, xbr_true, xbr_false, xbr_pos, xbr_neg, Int.toNat_natCast, all_eq, ex_eq, t_0, q_0_0, q_0_1, q_0_2, q_0_3, q_0_4, q_0_5, q_0_6, q_0_7, q_0_8, q_0_9, i_0_10, p_0_10, i_0_11, p_0_11, i_0_12, p_0_12, t_1, q_1_0, t_3, q_3_0, q_3_1, i_3_2, p_3_2, i_3_3, p_3_3, t_80, q_80_0, t_88, q_88_0, t_90, q_90_0, t_92, q_92_0, q_92_1, q_92_2, i_92_3, p_92_3, i_92_4, p_92_4, t_96, q_96_0, i_96_1, p_96_1, i_96_2, p_96_2, i_96_3, p_96_3, t_100, q_100_0, i_100_1, p_100_1, i_100_2, p_100_2, i_100_3, p_100_3, t_104, q_104_1, q_104_2, q_104_3, q_104_4, q_104_5, q_104_6, q_104_8, q_104_9, q_104_11, q_104_12, q_104_18, q_104_21, q_104_22, q_104_23, q_104_24, q_104_26, q_104_27, q_104_28, q_104_30, q_104_31, i_104_0, p_104_0, i_104_7, p_104_7, i_104_10, p_104_10, i_104_13, p_104_13, i_104_14, p_104_14, i_104_15, p_104_15, i_104_16, p_104_16, i_104_17, p_104_17, i_104_19, p_104_19, i_104_20, p_104_20, i_104_25, p_104_25, i_104_29, p_104_29, a_2, w_2, a_81, w_81, a_89, w_89, a_91, w_91, a_93, w_93, a_94, w_94, a_95, w_95, a_105, w_105, a_106, w_106, a_107, w_107, a_108, w_108, a_109, w_109, a_110, w_110, a_111, w_111, a_112, w_112, a_113, w_113, a_114, w_114, a_115, w_115, a_116, w_116, a_117, w_117, a_118, w_118, a_119, w_119, a_120, w_120, a_121, w_121, a_122, w_122, a_123, w_123, a_124, w_124, s_isIn hb, hbt, if_neg c]
      rfl
  · intro kc
    unfold BX10_mend_29 CX10_mend_29
    simp (disch := omega) only [J_add, J_sub, J_mul, J_lt, J_le, J_eq, xbr_true, xbr_false, xbr_pos, xbr_neg, Int.toNat_natCast, all_eq, ex_eq, t_0, q_0_0, q_0_1, q_0_2, q_0_3, q_0_4, q_0_5, q_0_6, q_0_7, q_0_8, q_0_9, i_0_10, p_0_10, i_0_11, p_0_11, i_0_12, p_0_12, t_1, q_1_0, t_3, q_3_0, q_3_1, i_3_2, p_3_2, i_3_3, p_3_3, t_80, q_80_0, t_88, q_88_0, t_90, q_90_0, t_92, q_92_0, q_92_1, q_92_2, i_92_3, p_92_3, i_92_4, p_92_4, t_96, q_96_0, i_96_1, p_96_1, i_96_2, p_96_2, i_96_3, p_96_3, t_100, q_100_0, i_100_1, p_100_1, i_100_2, p_100_2, i_100_3, p_100_3, t_104, q_104_1, q_104_2, q_104_3, q_104_4, q_104_5, q_104_6, q_104_8, q_104_9, q_104_11, q_104_12, q_104_18, q_104_21, q_104_22, q_104_23, q_104_24, q_104_26, q_104_27, q_104_28, q_104_30, q_104_31, i_104_0, p_104_0, i_104_7, p_104_7, i_104_10, p_104_10, i_104_13, p_104_13, i_104_14, p_104_14, i_104_15, p_104_15, i_104_16, p_104_16, i_104_17, p_104_17, i_104_19, p_104_19, i_104_20, p_104_20, i_104_25, p_104_25, i_104_29, p_104_29, a_2, w_2, a_81, w_81, a_89, w_89, a_91, w_91, a_93, w_93, a_94, w_94, a_95, w_95, a_105, w_105, a_106, w_106, a_107, w_107, a_108, w_108, a_109, w_109, a_110, w_110, a_111, w_111, a_112, w_112, a_113, w_113, a_114, w_114, a_115, w_115, a_116, w_116, a_117, w_117, a_118, w_118, a_119, w_119, a_120, w_120, a_121, w_121, a_122, w_122, a_123, w_123, a_124, w_124]
theorem m_mend11 {K : Int32 → Mem → Prop} (k2 : RowM C A) (k3 : RwOk A nb) (hn : nb ≤ 24) (h0 : C 104 0 = nb) (hw : ∀ x, f x = true → inA A x) : lp (BX11_mend_11 K (ad z 104) (orS 24 f)) (lay z g C, J 0) = lp (BX11_mend_44 K (ad z 104) (orS 24 f)) (lay z g (RmM C A f nb), J 0) := by
  refine lp_for (fun b : Nat => (lay z g (RmM C A f b), J (b : Int))) 0 nb _ (by omega) ?_ ?_
  · intro b _ hb kc
    have hbt := bt_f (f := f) (b := b) (by omega)
    obtain ⟨i1, i2⟩ := RmA_ok (b := b) k3 hw
    have kr := RmM_row (b := b) k2 k3 hw
    have e0 : RmM C A f b 104 0 = nb := by rw [RmM_104 (by omega)]; exact h0
    unfold BX11_mend_11 CX11_mend_11
    by_cases c : f b = true
    · have hix := inA_idx.mp ((i2 b).mpr ⟨hw b c, by omega⟩)
      have e : RmM C A f (b + 1) = pullM (RmM C A f b) (idx (RmA A f b) b) (shAt (RmA A f b).2.2 (idx (RmA A f b) b)) ((RmA A f b).1 - 1) := by
        show (if f b then _ else _) = _
        rw [if_pos c]
      rw [e]
      simp (disch := omega) only [J_add, J_sub, J_mul, J_lt, J_le, J_eq, xbr_true, xbr_false, xbr_pos, xbr_neg, Int.toNat_natCast, all_eq, ex_eq, t_0, q_0_0, q_0_1, q_0_2, q_0_3, q_0_4, q_0_5, q_0_6, q_0_7, q_0_8, q_0_9, i_0_10, p_0_10, i_0_11, p_0_11, i_0_12, p_0_12, t_1, q_1_0, t_3, q_3_0, q_3_1, i_3_2, p_3_2, i_3_3, p_3_3, t_80, q_80_0, t_88, q_88_0, t_90, q_90_0, t_92, q_92_0, q_92_1, q_92_2, i_92_3, p_92_3, i_92_4, p_92_4, t_96, q_96_0, i_96_1, p_96_1, i_96_2, p_96_2, i_96_3, p_96_3, t_100, q_100_0, i_100_1, p_100_1, i_100_2, p_100_2, i_100_3, p_100_3, t_104, q_104_1, q_104_2, q_104_3, q_104_4, q_104_5, q_104_6, q_104_8, q_104_9, q_104_11, q_104_12, q_104_18, q_104_21, q_104_22, q_104_23, q_104_24, q_104_26, q_104_27, q_104_28, q_104_30, q_104_31, i_104_0, p_104_0, i_104_7, p_104_7, i_104_10, p_104_10, i_104_13, p_104_13, i_104_14, p_104_14, i_104_15, p_104_15, i_104_16, p_104_16, i_104_17, p_104_17, i_104_19, p_104_19, i_104_20, p_104_20, i_104_25, p_104_25, i_104_29, p_104_29, a_2, w_2, a_81, w_81, a_89, w_89, a_91, w_91, a_93, w_93, a_94, w_94, a_95, w_95, a_105, w_105, a_106, w_106, a_107, w_107, a_108, w_108, a_109, w_109, a_110, w_110, a_111, w_111, a_112, w_112, a_113, w_113, a_114, w_114, a_115, w_115, a_116, w_116, a_117, w_117, a_118, w_118, a_119, w_119, a_120, w_120, a_121, w_121, a_122, w_122, a_123, w_123, a_124, w_124, e0, m_has (show b < 24 by omega), hbt, if_pos c, m_placeOf kr i1 hn (b := b) (by omega), if_pos hix, m_remove kr i1 hix]
      rfl
    · have e : RmM C A f (b + 1) = RmM C A f b := by
        show (if f b then _ else _) = _
        rw [if_neg c]
      rw [e]
      simp (disch := omega) only [J_add, J_sub, J_mul, J_lt, J_le, J_eq, xbr_true, xbr_false, xbr_pos, xbr_neg, Int.toNat_natCast, all_eq, ex_eq, t_0, q_0_0, q_0_1, q_0_2, q_0_3, q_0_4, q_0_5, q_0_6, q_0_7, q_0_8, q_0_9, i_0_10, p_0_10, i_0_11, p_0_11, i_0_12, p_0_12, t_1, q_1_0, t_3, q_3_0, q_3_1, i_3_2, p_3_2, i_3_3, p_3_3, t_80, q_80_0, t_88, q_88_0, t_90, q_90_0, t_92, q_92_0, q_92_1, q_92_2, i_92_3, p_92_3, i_92_4, p_92_4, t_96, q_96_0, i_96_1, p_96_1, i_96_2, p_96_2, i_96_3, p_96_3, t_100, q_100_0, i_100_1, p_100_1, i_100_2, p_100_2, i_100_3, p_100_3, t_104, q_104_1, q_104_2, q_104_3, q_104_4, q_104_5, q_104_6, q_104_8, q_104_9, q_104_11, q_104_12, q_104_18, q_104_21, q_104_22, q_104_23, q_104_24, q_104_26, q_104_27, q_104_28, q_104_30, q_104_31, i_104_0, p_104_0, i_104_7, p_104_7, i_104_10, p_104_10, i_104_13, p_104_13, i_104_14, p_104_14, i_104_15, p_104_15, i_104_16, p_104_16, i_104_17, p_104_17, i_104_19, p_104_19, i_104_20, p_104_20, i_104_25, p_104_25, i_104_29, p_104_29, a_2, w_2, a_81, w_81, a_89, w_89, a_91, w_91, a_93, w_93, a_94, w_94, a_95, w_95, a_105, w_105, a_106, w_106, a_107, w_107, a_108, w_108, a_109, w_109, a_110, w_110, a_111, w_111, a_112, w_112, a_113, w_113, a_114, w_114, a_115, w_115, a_116, w_116, a_117, w_117, a_118, w_118, a_119, w_119, a_120, w_120, a_121, w_121, a_122, w_122, a_123, w_123, a_124, w_124, e0, m_has (show b < 24 by omega), hbt, if_neg c]
      rfl
  · intro kc
    have e0 : RmM C A f nb 104 0 = nb := by rw [RmM_104 (by omega)]; exact h0
    unfold BX11_mend_11 CX11_mend_11
    simp (disch := omega) only [J_add, J_sub, J_mul, J_lt, J_le, J_eq, xbr_true, xbr_false, xbr_pos, xbr_neg, Int.toNat_natCast, all_eq, ex_eq, t_0, q_0_0, q_0_1, q_0_2, q_0_3, q_0_4, q_0_5, q_0_6, q_0_7, q_0_8, q_0_9, i_0_10, p_0_10, i_0_11, p_0_11, i_0_12, p_0_12, t_1, q_1_0, t_3, q_3_0, q_3_1, i_3_2, p_3_2, i_3_3, p_3_3, t_80, q_80_0, t_88, q_88_0, t_90, q_90_0, t_92, q_92_0, q_92_1, q_92_2, i_92_3, p_92_3, i_92_4, p_92_4, t_96, q_96_0, i_96_1, p_96_1, i_96_2, p_96_2, i_96_3, p_96_3, t_100, q_100_0, i_100_1, p_100_1, i_100_2, p_100_2, i_100_3, p_100_3, t_104, q_104_1, q_104_2, q_104_3, q_104_4, q_104_5, q_104_6, q_104_8, q_104_9, q_104_11, q_104_12, q_104_18, q_104_21, q_104_22, q_104_23, q_104_24, q_104_26, q_104_27, q_104_28, q_104_30, q_104_31, i_104_0, p_104_0, i_104_7, p_104_7, i_104_10, p_104_10, i_104_13, p_104_13, i_104_14, p_104_14, i_104_15, p_104_15, i_104_16, p_104_16, i_104_17, p_104_17, i_104_19, p_104_19, i_104_20, p_104_20, i_104_25, p_104_25, i_104_29, p_104_29, a_2, w_2, a_81, w_81, a_89, w_89, a_91, w_91, a_93, w_93, a_94, w_94, a_95, w_95, a_105, w_105, a_106, w_106, a_107, w_107, a_108, w_108, a_109, w_109, a_110, w_110, a_111, w_111, a_112, w_112, a_113, w_113, a_114, w_114, a_115, w_115, a_116, w_116, a_117, w_117, a_118, w_118, a_119, w_119, a_120, w_120, a_121, w_121, a_122, w_122, a_123, w_123, a_124, w_124, e0]
/-- the class puts them all, or stops at the first that does not go -/
theorem s_mend59 {K : Int32 → Mem → Prop} {W w' : Nat → Int} (k1 : RowC D 85 A) (k3 : RwOk A nb) (hS : Sm D nb) (hf : ∀ x, f x = true → x < nb ∧ ¬ inA A x) (eC : ∀ o, 5 ≤ o → o ≤ 79 → D o = C o) (hW : ∀ s, s < 8 → D 81 s = W s) (hw : ∀ b, b < nb → wC D b = w' b) {m : Nat} (hm : orS 24 f = J (m : Int)) (hm2 : m < 16777216) :
    lp (BX10_mend_59 K (ad z 0) (orS 24 f)) (lay z g D, J 0) = if PtF W w' C A f 24 < 24 then K (J (-1003)) (lay z g (PtC W w' C A f D (PtF W w' C A f 24 + 1))) else K (J (pc m 24 : Nat)) (lay z g (cpC (PtC W w' C A f D 24) 82 85 24)) := by
  have hn := hS.1
  have hF := fst1_le 24 (fun b => f b && !(putA W w' C (PtA W w' C A f b) b 0).1)
  have step : ∀ b, b < 24 → f b = true → ∀ K : Int32 → Mem → Prop, PX8_putBy (ad z 80) (ad z 85) (ad z 3) (J (b : Nat)) (J 0) (lay z g (PtC W w' C A f D b)) K = K (J (if (putA W w' C (PtA W w' C A f b) b 0).1 then 1 else 0)) (lay z g (PtC W w' C A f D (b + 1))) := by
    intro b hb c K
    obtain ⟨i1, i2⟩ := PtA_ok (W := W) (w' := w') (C := C) (b := b) k3 hf
    have kr := PtC_row (W := W) (w' := w') (C := C) (b := b) k1 k3 hn hf
    have hq := PtA_out (W := W) (w' := w') (C := C) k3 hf c
    have hbn := (hf b c).1
    have eP : ∀ o, 5 ≤ o → o ≤ 79 → PtC W w' C A f D b o = C o := fun o h1 h2 => by rw [PtC_ne (by omega), eC o h1 h2]
    have e81 : PtC W w' C A f D b 81 = D 81 := PtC_ne (by omega)
    have ew : ∀ x, x < nb → wC (PtC W w' C A f D b) x = w' x := fun x hx => by
      have := hw x hx
      unfold wC at this ⊢
      rw [PtC_ne (by omega)]; exact this
    have hS' : Sm (PtC W w' C A f D b) nb := ⟨hn, by rw [PtC_ne (by omega)]; exact hS.2.1, hS.2.2.1.fr (fun o _ _ => PtC_ne (by omega)), fun s hs => by rw [e81]; exact hS.2.2.2 s hs⟩
    rw [s_putBy r85 kr i1 hS' hbn hq (by omega) (by omega)]
    rw [putA_congr (C := C) (W' := W) (w' := w') i1 hbn hq eP (fun s hs => by rw [e81]; exact hW s hs) ew, spotA_congr eP]
    have e : PtC W w' C A f D (b + 1) = shC (insC (PtC W w' C A f D b) 85 (spotA C (PtA W w' C A f b) b 0) b (spotS (PtA W w' C A f b) (spotA C (PtA W w' C A f b) b 0))) 85 (putA W w' C (PtA W w' C A f b) b 0).2 := by
      show (if f b then _ else _) = _
      rw [if_pos c]
    rw [e]
  refine lp_for (fun b : Nat => (lay z g (PtC W w' C A f D b), J (b : Int))) 0 (PtF W w' C A f 24) _ (by omega) ?_ ?_
  · intro b _ hb kc
    have hb24 : b < 24 := by unfold PtF at hb; omega
    have h6 := fst1_lt hb
    have hbt := bt_f (f := f) hb24
    unfold BX10_mend_59 CX10_mend_59
    by_cases c : f b = true
    · have h7 : (putA W w' C (PtA W w' C A f b) b 0).1 = true := by simpa [c] using h6
      simp (disch := omega) only [J_add, J_sub, J_mul, J_lt, J_le, J_eq, xbr_true, xbr_false, xbr_pos, xbr_neg, Int.toNat_natCast, all_eq, ex_eq, t_0, q_0_0, q_0_1, q_0_2, q_0_3, q_0_4, q_0_5, q_0_6, q_0_7, q_0_8, q_0_9, i_0_10, p_0_10, i_0_11, p_0_11, i_0_12, p_0_12, t_1, q_1_0, t_3, q_3_0, q_3_1, i_3_2, p_3_2, i_3_3, p_3_3, t_80, q_80_0, t_88, q_88_0, t_90, q_90_0, t_92, q_92_0, q_92_1, q_92_2, i_92_3, p_92_3, i_92_4, p_92_4, t_96, q_96_0, i_96_1, p_96_1, i_96_2, p_96_2, i_96_3, p_96_3, t_100, q_100_0, i_100_1, p_100_1, i_100_2, p_100_2, i_100_3, p_100_3, t_104, q_104_1, q_104_2, q_104_3, q_104_4, q_104_5, q_104_6, q_104_8, q_104_9, q_104_11, q_104_12, q_104_18, q_104_21, q_104_22, q_104_23, q_104_24, q_104_26, q_104_27, q_104_28, q_104_30, q_104_31, i_104_0, p_104_0, i_104_7, p_104_7, i_104_10, p_104_10, i_104_13, p_104_13, i_104_14, p_104_14, i_104_15, p_104_15, i_104_16, p_104_16, i_104_17, p_104_17, i_104_19, p_104_19, i_104_20, p_104_20, i_104_25, p_104_25, i_104_29, p_104_29, a_2, w_2, a_81, w_81, a_89, w_89, a_91, w_91, a_93, w_93, a_94, w_94, a_95, w_95, a_105, w_105, a_106, w_106, a_107, w_107, a_108, w_108, a_109, w_109, a_110, w_110, a_111, w_111, a_112, w_112, a_113, w_113, a_114, w_114, a_115, w_115, a_116, w_116, a_117, w_117, a_118, w_118, a_119, w_119, a_120, w_120, a_121, w_121, a_122, w_122, a_123, w_123, a_124, w_124, s_isIn hb24, hbt, if_pos c, step b hb24 c, h7, if_true]
      rfl
    · have e : PtC W w' C A f D (b + 1) = PtC W w' C A f D b := by
        show (if f b then _ else _) = _
        rw [if_neg c]
      rw [e]
      simp (disch := omega) only [J_add, J_sub, J_mul, J_lt, J_le, J_eq, xbr_true, xbr_false, xbr_pos, xbr_neg, Int.toNat_natCast, all_eq, ex_eq, t_0, q_0_0, q_0_1, q_0_2, q_0_3, q_0_4, q_0_5, q_0_6, q_0_7, q_0_8, q_0_9, i_0_10, p_0_10, i_0_11, p_0_11, i_0_12, p_0_12, t_1, q_1_0, t_3, q_3_0, q_3_1, i_3_2, p_3_2, i_3_3, p_3_3, t_80, q_80_0, t_88, q_88_0, t_90, q_90_0, t_92, q_92_0, q_92_1, q_92_2, i_92_3, p_92_3, i_92_4, p_92_4, t_96, q_96_0, i_96_1, p_96_1, i_96_2, p_96_2, i_96_3, p_96_3, t_100, q_100_0, i_100_1, p_100_1, i_100_2, p_100_2, i_100_3, p_100_3, t_104, q_104_1, q_104_2, q_104_3, q_104_4, q_104_5, q_104_6, q_104_8, q_104_9, q_104_11, q_104_12, q_104_18, q_104_21, q_104_22, q_104_23, q_104_24, q_104_26, q_104_27, q_104_28, q_104_30, q_104_31, i_104_0, p_104_0, i_104_7, p_104_7, i_104_10, p_104_10, i_104_13, p_104_13, i_104_14, p_104_14, i_104_15, p_104_15, i_104_16, p_104_16, i_104_17, p_104_17, i_104_19, p_104_19, i_104_20, p_104_20, i_104_25, p_104_25, i_104_29, p_104_29, a_2, w_2, a_81, w_81, a_89, w_89, a_91, w_91, a_93, w_93, a_94, w_94, a_95, w_95, a_105, w_105, a_106, w_106, a_107, w_107, a_108, w_108, a_109, w_109, a_110, w_110, a_111, w_111, a_112, w_112, a_113, w_113, a_114, w_114, a_115, w_115, a_116, w_116, a_117, w_117, a_118, w_118, a_119, w_119, a_120, w_120, a_121, w_121, a_122, w_122, a_123, w_123, a_124, w_124, s_isIn hb24, hbt, if_neg c]
      rfl
  · intro kc
    unfold BX10_mend_59 CX10_mend_59
    by_cases c5 : PtF W w' C A f 24 < 24
    · have h6 := fst1_at (n := 24) (f := fun b => f b && !(putA W w' C (PtA W w' C A f b) b 0).1) c5
      rw [if_pos c5]
      change (f (PtF W w' C A f 24) && !(putA W w' C (PtA W w' C A f (PtF W w' C A f 24)) (PtF W w' C A f 24) 0).1) = true at h6
      simp only [Bool.and_eq_true, Bool.not_eq_true'] at h6
      have hbt := bt_f (f := f) c5
      simp (disch := omega) only [J_add, J_sub, J_mul, J_lt, J_le, J_eq, xbr_true, xbr_false, xbr_pos, xbr_neg, Int.toNat_natCast, all_eq, ex_eq, t_0, q_0_0, q_0_1, q_0_2, q_0_3, q_0_4, q_0_5, q_0_6, q_0_7, q_0_8, q_0_9, i_0_10, p_0_10, i_0_11, p_0_11, i_0_12, p_0_12, t_1, q_1_0, t_3, q_3_0, q_3_1, i_3_2, p_3_2, i_3_3, p_3_3, t_80, q_80_0, t_88, q_88_0, t_90, q_90_0, t_92, q_92_0, q_92_1, q_92_2, i_92_3, p_92_3, i_92_4, p_92_4, t_96, q_96_0, i_96_1, p_96_1, i_96_2, p_96_2, i_96_3, p_96_3, t_100, q_100_0, i_100_1, p_100_1, i_100_2, p_100_2, i_100_3, p_100_3, t_104, q_104_1, q_104_2, q_104_3, q_104_4, q_104_5, q_104_6, q_104_8, q_104_9, q_104_11, q_104_12, q_104_18, q_104_21, q_104_22, q_104_23, q_104_24, q_104_26, q_104_27, q_104_28, q_104_30, q_104_31, i_104_0, p_104_0, i_104_7, p_104_7, i_104_10, p_104_10, i_104_13, p_104_13, i_104_14, p_104_14, i_104_15, p_104_15, i_104_16, p_104_16, i_104_17, p_104_17, i_104_19, p_104_19, i_104_20, p_104_20, i_104_25, p_104_25, i_104_29, p_104_29, a_2, w_2, a_81, w_81, a_89, w_89, a_91, w_91, a_93, w_93, a_94, w_94, a_95, w_95, a_105, w_105, a_106, w_106, a_107, w_107, a_108, w_108, a_109, w_109, a_110, w_110, a_111, w_111, a_112, w_112, a_113, w_113, a_114, w_114, a_115, w_115, a_116, w_116, a_117, w_117, a_118, w_118, a_119, w_119, a_120, w_120, a_121, w_121, a_122, w_122, a_123, w_123, a_124, w_124, s_isIn c5, hbt, if_pos h6.1, step _ c5 h6.1, h6.2, Bool.false_eq_true, if_false]
    · have e5 : PtF W w' C A f 24 = 24 := by unfold PtF at c5 ⊢; omega
      rw [if_neg c5, e5]
      have hcp := fun K => s_copyFrom (z := z) (g := g) (C := PtC W w' C A f D 24) (K := K) r82 r85 (by omega)
      have bc := fun M K => s_bitCount (M := M) (K := K) hm2
      rw [hm]
      simp (disch := omega) only [J_add, J_sub, J_mul, J_lt, J_le, J_eq, xbr_true, xbr_false, xbr_pos, xbr_neg, Int.toNat_natCast, all_eq, ex_eq, t_0, q_0_0, q_0_1, q_0_2, q_0_3, q_0_4, q_0_5, q_0_6, q_0_7, q_0_8, q_0_9, i_0_10, p_0_10, i_0_11, p_0_11, i_0_12, p_0_12, t_1, q_1_0, t_3, q_3_0, q_3_1, i_3_2, p_3_2, i_3_3, p_3_3, t_80, q_80_0, t_88, q_88_0, t_90, q_90_0, t_92, q_92_0, q_92_1, q_92_2, i_92_3, p_92_3, i_92_4, p_92_4, t_96, q_96_0, i_96_1, p_96_1, i_96_2, p_96_2, i_96_3, p_96_3, t_100, q_100_0, i_100_1, p_100_1, i_100_2, p_100_2, i_100_3, p_100_3, t_104, q_104_1, q_104_2, q_104_3, q_104_4, q_104_5, q_104_6, q_104_8, q_104_9, q_104_11, q_104_12, q_104_18, q_104_21, q_104_22, q_104_23, q_104_24, q_104_26, q_104_27, q_104_28, q_104_30, q_104_31, i_104_0, p_104_0, i_104_7, p_104_7, i_104_10, p_104_10, i_104_13, p_104_13, i_104_14, p_104_14, i_104_15, p_104_15, i_104_16, p_104_16, i_104_17, p_104_17, i_104_19, p_104_19, i_104_20, p_104_20, i_104_25, p_104_25, i_104_29, p_104_29, a_2, w_2, a_81, w_81, a_89, w_89, a_91, w_91, a_93, w_93, a_94, w_94, a_95, w_95, a_105, w_105, a_106, w_106, a_107, w_107, a_108, w_108, a_109, w_109, a_110, w_110, a_111, w_111, a_112, w_112, a_113, w_113, a_114, w_114, a_115, w_115, a_116, w_116, a_117, w_117, a_118, w_118, a_119, w_119, a_120, w_120, a_121, w_121, a_122, w_122, a_123, w_123, a_124, w_124, hcp, bc]
theorem m_mend44 {K : Int32 → Mem → Prop} {W w' : Nat → Int} (k2 : RowM D A) (k3 : RwOk A nb) (hS : SmM D nb) (h0 : D 104 0 = nb) (hB : ∀ b, b < nb → BkRel D b) (hf : ∀ x, f x = true → x < nb ∧ ¬ inA A x) (eC : ∀ o, 5 ≤ o → o ≤ 79 → D o = C o) (hW : ∀ s, s < 8 → D 110 s = W s) (hw : ∀ b, b < nb → D 109 b = w' b) {m : Nat} (hm : orS 24 f = J (m : Int)) (hm2 : m < 16777216) :
    lp (BX11_mend_44 K (ad z 104) (orS 24 f)) (lay z g D, J 0) = if PtF W w' C A f 24 < 24 then K (J (-1003)) (lay z g (bakC (PtM W w' C A f D (PtF W w' C A f 24 + 1)) 25 8)) else K (J (pc m 24 : Nat)) (lay z g (PtM W w' C A f D nb)) := by
  have hn := hS.1
  have hF := fst1_le 24 (fun b => f b && !(putA W w' C (PtA W w' C A f b) b 0).1)
  have hFn : PtF W w' C A f 24 < 24 → PtF W w' C A f 24 < nb := fun c => by
    have h6 := fst1_at (n := 24) (f := fun b => f b && !(putA W w' C (PtA W w' C A f b) b 0).1) c
    change (f (PtF W w' C A f 24) && !(putA W w' C (PtA W w' C A f (PtF W w' C A f 24)) (PtF W w' C A f 24) 0).1) = true at h6
    simp only [Bool.and_eq_true] at h6
    exact (hf _ h6.1).1
  have step : ∀ b, b < nb → f b = true → ∀ K : Int32 → Mem → Prop, PX11_putNow (ad z 104) (J (b : Nat)) (J 0) (lay z g (PtM W w' C A f D b)) K = K (J (if (putA W w' C (PtA W w' C A f b) b 0).1 then 1 else 0)) (lay z g (PtM W w' C A f D (b + 1))) := by
    intro b hb c K
    obtain ⟨i1, i2⟩ := PtA_ok (W := W) (w' := w') (C := C) (b := b) k3 hf
    have kr := PtM_row (W := W) (w' := w') (C := C) (b := b) k2 k3 hn hf
    have hq := PtA_out (W := W) (w' := w') (C := C) k3 hf c
    have eP : ∀ o, 5 ≤ o → o ≤ 79 → PtM W w' C A f D b o = C o := fun o h1 h2 => by rw [PtM_ne (by omega), eC o h1 h2]
    have e110 : PtM W w' C A f D b 110 = D 110 := PtM_ne (by omega)
    have e109 : PtM W w' C A f D b 109 = D 109 := PtM_ne (by omega)
    have hS' : SmM (PtM W w' C A f D b) nb := ⟨hn, by rw [e109]; exact hS.2.1, by rw [e110]; exact hS.2.2⟩
    rw [m_putNow kr i1 hS' (fun x hx => (hB x hx).fr (by omega) (fun a _ _ => PtM_ne (by omega)) (fun a _ _ => PtM_ne (by omega))) hb hq (by omega) (by omega)]
    rw [putA_congr (C := C) (W' := W) (w' := w') i1 hb hq eP (fun s hs => by rw [e110]; exact hW s hs) (fun x hx => by rw [e109]; exact hw x hx), spotA_congr eP]
    have e : PtM W w' C A f D (b + 1) = onC (insM (PtM W w' C A f D b) (spotA C (PtA W w' C A f b) b 0) b (spotS (PtA W w' C A f b) (spotA C (PtA W w' C A f b) b 0))) (putA W w' C (PtA W w' C A f b) b 0).2 := by
      show (if f b then _ else _) = _
      rw [if_pos c]
    rw [e]
  have e0 : ∀ b, PtM W w' C A f D b 104 0 = nb := fun b => by rw [PtM_104 (by omega)]; exact h0
  refine lp_for (fun b : Nat => (lay z g (PtM W w' C A f D b), J (b : Int))) 0 (if PtF W w' C A f 24 < nb then PtF W w' C A f 24 else nb) _ (Nat.zero_le _) ?_ ?_
  · intro b _ hb kc
    have hb24 : b < nb := by split at hb <;> omega
    have hbF : b < PtF W w' C A f 24 := by split at hb <;> omega
    have h6 := fst1_lt hbF
    have hbt := bt_f (f := f) (b := b) (by omega)
    unfold BX11_mend_44 CX11_mend_44
    by_cases c : f b = true
    · have h7 : (putA W w' C (PtA W w' C A f b) b 0).1 = true := by simpa [c] using h6
      simp (disch := omega) only [J_add, J_sub, J_mul, J_lt, J_le, J_eq, xbr_true, xbr_false, xbr_pos, xbr_neg, Int.toNat_natCast, all_eq, ex_eq, t_0, q_0_0, q_0_1, q_0_2, q_0_3, q_0_4, q_0_5, q_0_6, q_0_7, q_0_8, q_0_9, i_0_10, p_0_10, i_0_11, p_0_11, i_0_12, p_0_12, t_1, q_1_0, t_3, q_3_0, q_3_1, i_3_2, p_3_2, i_3_3, p_3_3, t_80, q_80_0, t_88, q_88_0, t_90, q_90_0, t_92, q_92_0, q_92_1, q_92_2, i_92_3, p_92_3, i_92_4, p_92_4, t_96, q_96_0, i_96_1, p_96_1, i_96_2, p_96_2, i_96_3, p_96_3, t_100, q_100_0, i_100_1, p_100_1, i_100_2, p_100_2, i_100_3, p_100_3, t_104, q_104_1, q_104_2, q_104_3, q_104_4, q_104_5, q_104_6, q_104_8, q_104_9, q_104_11, q_104_12, q_104_18, q_104_21, q_104_22, q_104_23, q_104_24, q_104_26, q_104_27, q_104_28, q_104_30, q_104_31, i_104_0, p_104_0, i_104_7, p_104_7, i_104_10, p_104_10, i_104_13, p_104_13, i_104_14, p_104_14, i_104_15, p_104_15, i_104_16, p_104_16, i_104_17, p_104_17, i_104_19, p_104_19, i_104_20, p_104_20, i_104_25, p_104_25, i_104_29, p_104_29, a_2, w_2, a_81, w_81, a_89, w_89, a_91, w_91, a_93, w_93, a_94, w_94, a_95, w_95, a_105, w_105, a_106, w_106, a_107, w_107, a_108, w_108, a_109, w_109, a_110, w_110, a_111, w_111, a_112, w_112, a_113, w_113, a_114, w_114, a_115, w_115, a_116, w_116, a_117, w_117, a_118, w_118, a_119, w_119, a_120, w_120, a_121, w_121, a_122, w_122, a_123, w_123, a_124, w_124, e0, m_has (show b < 24 by omega), hbt, if_pos c, step b hb24 c, h7, if_true]
      rfl
    · have e : PtM W w' C A f D (b + 1) = PtM W w' C A f D b := by
        show (if f b then _ else _) = _
        rw [if_neg c]
      rw [e]
      simp (disch := omega) only [J_add, J_sub, J_mul, J_lt, J_le, J_eq, xbr_true, xbr_false, xbr_pos, xbr_neg, Int.toNat_natCast, all_eq, ex_eq, t_0, q_0_0, q_0_1, q_0_2, q_0_3, q_0_4, q_0_5, q_0_6, q_0_7, q_0_8, q_0_9, i_0_10, p_0_10, i_0_11, p_0_11, i_0_12, p_0_12, t_1, q_1_0, t_3, q_3_0, q_3_1, i_3_2, p_3_2, i_3_3, p_3_3, t_80, q_80_0, t_88, q_88_0, t_90, q_90_0, t_92, q_92_0, q_92_1, q_92_2, i_92_3, p_92_3, i_92_4, p_92_4, t_96, q_96_0, i_96_1, p_96_1, i_96_2, p_96_2, i_96_3, p_96_3, t_100, q_100_0, i_100_1, p_100_1, i_100_2, p_100_2, i_100_3, p_100_3, t_104, q_104_1, q_104_2, q_104_3, q_104_4, q_104_5, q_104_6, q_104_8, q_104_9, q_104_11, q_104_12, q_104_18, q_104_21, q_104_22, q_104_23, q_104_24, q_104_26, q_104_27, q_104_28, q_104_30, q_104_31, i_104_0, p_104_0, i_104_7, p_104_7, i_104_10, p_104_10, i_104_13, p_104_13, i_104_14, p_104_14, i_104_15, p_104_15, i_104_16, p_104_16, i_104_17, p_104_17, i_104_19, p_104_19, i_104_20, p_104_20, i_104_25, p_104_25, i_104_29, p_104_29, a_2, w_2, a_81, w_81, a_89, w_89, a_91, w_91, a_93, w_93, a_94, w_94, a_95, w_95, a_105, w_105, a_106, w_106, a_107, w_107, a_108, w_108, a_109, w_109, a_110, w_110, a_111, w_111, a_112, w_112, a_113, w_113, a_114, w_114, a_115, w_115, a_116, w_116, a_117, w_117, a_118, w_118, a_119, w_119, a_120, w_120, a_121, w_121, a_122, w_122, a_123, w_123, a_124, w_124, e0, m_has (show b < 24 by omega), hbt, if_neg c]
      rfl
  · intro kc
    unfold BX11_mend_44 CX11_mend_44
    by_cases c5 : PtF W w' C A f 24 < 24
    · have h6 := fst1_at (n := 24) (f := fun b => f b && !(putA W w' C (PtA W w' C A f b) b 0).1) c5
      have hl := hFn c5
      rw [if_pos c5, if_pos hl]
      change (f (PtF W w' C A f 24) && !(putA W w' C (PtA W w' C A f (PtF W w' C A f 24)) (PtF W w' C A f 24) 0).1) = true at h6
      simp only [Bool.and_eq_true, Bool.not_eq_true'] at h6
      have hbt := bt_f (f := f) c5
      simp (disch := omega) only [J_add, J_sub, J_mul, J_lt, J_le, J_eq, xbr_true, xbr_false, xbr_pos, xbr_neg, Int.toNat_natCast, all_eq, ex_eq, t_0, q_0_0, q_0_1, q_0_2, q_0_3, q_0_4, q_0_5, q_0_6, q_0_7, q_0_8, q_0_9, i_0_10, p_0_10, i_0_11, p_0_11, i_0_12, p_0_12, t_1, q_1_0, t_3, q_3_0, q_3_1, i_3_2, p_3_2, i_3_3, p_3_3, t_80, q_80_0, t_88, q_88_0, t_90, q_90_0, t_92, q_92_0, q_92_1, q_92_2, i_92_3, p_92_3, i_92_4, p_92_4, t_96, q_96_0, i_96_1, p_96_1, i_96_2, p_96_2, i_96_3, p_96_3, t_100, q_100_0, i_100_1, p_100_1, i_100_2, p_100_2, i_100_3, p_100_3, t_104, q_104_1, q_104_2, q_104_3, q_104_4, q_104_5, q_104_6, q_104_8, q_104_9, q_104_11, q_104_12, q_104_18, q_104_21, q_104_22, q_104_23, q_104_24, q_104_26, q_104_27, q_104_28, q_104_30, q_104_31, i_104_0, p_104_0, i_104_7, p_104_7, i_104_10, p_104_10, i_104_13, p_104_13, i_104_14, p_104_14, i_104_15, p_104_15, i_104_16, p_104_16, i_104_17, p_104_17, i_104_19, p_104_19, i_104_20, p_104_20, i_104_25, p_104_25, i_104_29, p_104_29, a_2, w_2, a_81, w_81, a_89, w_89, a_91, w_91, a_93, w_93, a_94, w_94, a_95, w_95, a_105, w_105, a_106, w_106, a_107, w_107, a_108, w_108, a_109, w_109, a_110, w_110, a_111, w_111, a_112, w_112, a_113, w_113, a_114, w_114, a_115, w_115, a_116, w_116, a_117, w_117, a_118, w_118, a_119, w_119, a_120, w_120, a_121, w_121, a_122, w_122, a_123, w_123, a_124, w_124, e0, m_has c5, hbt, if_pos h6.1, step _ hl h6.1, h6.2, Bool.false_eq_true, if_false, m_back]
    · rw [if_neg c5, if_neg (by omega)]
      have bc := fun M K => m_bits (M := M) (K := K) (n := m) (by omega)
      rw [hm]
      simp (disch := omega) only [J_add, J_sub, J_mul, J_lt, J_le, J_eq, xbr_true, xbr_false, xbr_pos, xbr_neg, Int.toNat_natCast, all_eq, ex_eq, t_0, q_0_0, q_0_1, q_0_2, q_0_3, q_0_4, q_0_5, q_0_6, q_0_7, q_0_8, q_0_9, i_0_10, p_0_10, i_0_11, p_0_11, i_0_12, p_0_12, t_1, q_1_0, t_3, q_3_0, q_3_1, i_3_2, p_3_2, i_3_3, p_3_3, t_80, q_80_0, t_88, q_88_0, t_90, q_90_0, t_92, q_92_0, q_92_1, q_92_2, i_92_3, p_92_3, i_92_4, p_92_4, t_96, q_96_0, i_96_1, p_96_1, i_96_2, p_96_2, i_96_3, p_96_3, t_100, q_100_0, i_100_1, p_100_1, i_100_2, p_100_2, i_100_3, p_100_3, t_104, q_104_1, q_104_2, q_104_3, q_104_4, q_104_5, q_104_6, q_104_8, q_104_9, q_104_11, q_104_12, q_104_18, q_104_21, q_104_22, q_104_23, q_104_24, q_104_26, q_104_27, q_104_28, q_104_30, q_104_31, i_104_0, p_104_0, i_104_7, p_104_7, i_104_10, p_104_10, i_104_13, p_104_13, i_104_14, p_104_14, i_104_15, p_104_15, i_104_16, p_104_16, i_104_17, p_104_17, i_104_19, p_104_19, i_104_20, p_104_20, i_104_25, p_104_25, i_104_29, p_104_29, a_2, w_2, a_81, w_81, a_89, w_89, a_91, w_91, a_93, w_93, a_94, w_94, a_95, w_95, a_105, w_105, a_106, w_106, a_107, w_107, a_108, w_108, a_109, w_109, a_110, w_110, a_111, w_111, a_112, w_112, a_113, w_113, a_114, w_114, a_115, w_115, a_116, w_116, a_117, w_117, a_118, w_118, a_119, w_119, a_120, w_120, a_121, w_121, a_122, w_122, a_123, w_123, a_124, w_124, e0, bc]
theorem op_mend (h : Inv C nb A) : ∃ (x : Int) (C1 C2 : Nat → Nat → Int) (A2 : Rw), (∀ K, PX10_mend (ad z 0) (lay z g C) K = K (J x) (lay z g C1)) ∧ (∀ K, PX11_mend (ad z 104) (lay z g C1) K = K (J x) (lay z g C2)) ∧ Inv C2 nb A2 := by
  obtain ⟨g1, g2, g3, g4, g5, g6, g7⟩ := h.2.1
  obtain ⟨k1, k2, k3⟩ := h.2.2.2.2.2.2.1
  have l24 := k2.2.1
  have hS := h.sm
  have hSM := h.smm
  obtain ⟨m, hm2, hm⟩ := orS_nat 24 (by omega) (outB C A)
  have hm3 : m < 16777216 := by simpa using hm2
  have hw : ∀ x, outB C A x = true → inA A x := fun x hx => inA_idx.mpr (by unfold outB at hx; simp at hx; exact hx.1)
  obtain ⟨r1, r2⟩ := RmA_ok (w := outB C A) (b := 24) k3 hw
  have hwn : ∀ x, outB C A x = true → x < nb := fun x hx => by
    have := inA_idx.mp (hw x hx)
    have h2 := k3.1 _ this
    rw [idx_at this] at h2; exact h2
  have hf : ∀ x, outB C A x = true → x < nb ∧ ¬ inA (RmA A (outB C A) 24) x := fun x hx => ⟨hwn x hx, fun q => ((r2 x).mp q).2 ⟨by have := hwn x hx; omega, hx⟩⟩
  have eRm : RmA A (outB C A) nb = RmA A (outB C A) 24 := by
    have : ∀ d, RmA A (outB C A) (nb + d) = RmA A (outB C A) nb := by
      intro d
      induction d with
      | zero => rfl
      | succ d ih =>
        show (if outB C A (nb + d) then _ else RmA A (outB C A) (nb + d)) = _
        rw [if_neg (fun q => by have := hwn _ q; omega)]
        exact ih
    have h2 := this (24 - nb)
    rw [show nb + (24 - nb) = 24 by omega] at h2
    exact h2.symm
  -- the class
  have e1 : ∀ a, a ≠ 89 → a < 85 ∨ 87 < a → cpC (chC C A 0) 85 82 24 a = C a := fun a h1 h2 => by rw [cpC_ne (by omega), chC_ne h1]
  have q1 : RowC (cpC (chC C A 0) 85 82 24) 85 A := RowC.cp (k1.fr (chC_ne (by omega)) (chC_ne (by omega)) (chC_ne (by omega))) k3 g1
  have e2 : ∀ a, a ≠ 89 → a < 85 ∨ 87 < a → RmC (cpC (chC C A 0) 85 82 24) 85 A (outB C A) 24 a = C a := fun a h1 h2 => by rw [RmC_ne (by omega), e1 a h1 h2]
  have q2 := RmC_row (w := outB C A) (b := 24) q1 k3 g1 hw
  have q3 : Sm (RmC (cpC (chC C A 0) 85 82 24) 85 A (outB C A) 24) nb := ⟨g1, by rw [e2 _ (by omega) (by omega)]; exact g2, g5.fr (fun o _ _ => e2 _ (by omega) (by omega)), fun s hs => by rw [e2 _ (by omega) (by omega)]; exact hS.2.2.2 s hs⟩
  have cl := fun K => s_mend59 (z := z) (g := g) (K := K) (C := C) (W := C 110) (w' := C 109) q2 r1 q3 hf (fun o _ _ => e2 _ (by omega) (by omega)) (fun s hs => by rw [e2 _ (by omega) (by omega)]; exact h.W s hs) (fun x hx => by
    have := h.w x hx
    unfold wC at this ⊢
    rw [e2 _ (by omega) (by omega)]; exact this) hm hm3
  have clP : ∀ K, PX10_mend (ad z 0) (lay z g C) K = lp (BX10_mend_59 K (ad z 0) (orS 24 (outB C A))) (lay z g (RmC (cpC (chC C A 0) 85 82 24) 85 A (outB C A) 24), J 0) := fun K => by
    have hcp := fun K => s_copyFrom (z := z) (g := g) (C := chC C A 0) (K := K) r85 r82 (by omega)
    unfold PX10_mend
    simp (disch := omega) only [J_add, J_sub, J_mul, J_lt, J_le, J_eq, xbr_true, xbr_false, xbr_pos, xbr_neg, Int.toNat_natCast, all_eq, ex_eq, t_0, q_0_0, q_0_1, q_0_2, q_0_3, q_0_4, q_0_5, q_0_6, q_0_7, q_0_8, q_0_9, i_0_10, p_0_10, i_0_11, p_0_11, i_0_12, p_0_12, t_1, q_1_0, t_3, q_3_0, q_3_1, i_3_2, p_3_2, i_3_3, p_3_3, t_80, q_80_0, t_88, q_88_0, t_90, q_90_0, t_92, q_92_0, q_92_1, q_92_2, i_92_3, p_92_3, i_92_4, p_92_4, t_96, q_96_0, i_96_1, p_96_1, i_96_2, p_96_2, i_96_3, p_96_3, t_100, q_100_0, i_100_1, p_100_1, i_100_2, p_100_2, i_100_3, p_100_3, t_104, q_104_1, q_104_2, q_104_3, q_104_4, q_104_5, q_104_6, q_104_8, q_104_9, q_104_11, q_104_12, q_104_18, q_104_21, q_104_22, q_104_23, q_104_24, q_104_26, q_104_27, q_104_28, q_104_30, q_104_31, i_104_0, p_104_0, i_104_7, p_104_7, i_104_10, p_104_10, i_104_13, p_104_13, i_104_14, p_104_14, i_104_15, p_104_15, i_104_16, p_104_16, i_104_17, p_104_17, i_104_19, p_104_19, i_104_20, p_104_20, i_104_25, p_104_25, i_104_29, p_104_29, a_2, w_2, a_81, w_81, a_89, w_89, a_91, w_91, a_93, w_93, a_94, w_94, a_95, w_95, a_105, w_105, a_106, w_106, a_107, w_107, a_108, w_108, a_109, w_109, a_110, w_110, a_111, w_111, a_112, w_112, a_113, w_113, a_114, w_114, a_115, w_115, a_116, w_116, a_117, w_117, a_118, w_118, a_119, w_119, a_120, w_120, a_121, w_121, a_122, w_122, a_123, w_123, a_124, w_124, s_outOf k1 k3 g1 g5, hcp]
    rw [s_mend29 q1 k3 g1 hw]
  generalize hE : RmC (cpC (chC C A 0) 85 82 24) 85 A (outB C A) 24 = E at *
  -- the reference, from any memory that agrees
  have mref : ∀ D : Nat → Nat → Int, (∀ a, a ≠ 89 → a < 82 ∨ 87 < a → D a = C a) → ∀ K, PX11_mend (ad z 104) (lay z g D) K = if PtF (C 110) (C 109) C (RmA A (outB C A) 24) (outB C A) 24 < 24 then K (J (-1003)) (lay z g (bakC (PtM (C 110) (C 109) C (RmA A (outB C A) 24) (outB C A) (RmM (savC (kpC D A 0 0) 25 8) A (outB C A) nb) (PtF (C 110) (C 109) C (RmA A (outB C A) 24) (outB C A) 24 + 1)) 25 8)) else K (J (pc m 24 : Nat)) (lay z g (PtM (C 110) (C 109) C (RmA A (outB C A) 24) (outB C A) (RmM (savC (kpC D A 0 0) 25 8) A (outB C A) nb) nb)) := by
    intro D hD K
    have d1 : ∀ o, 5 ≤ o → o ≤ 79 → D o = C o := fun o _ _ => hD o (by omega) (by omega)
    have k2' : RowM D A := k2.fr (by rw [hD _ (by omega) (by omega)]) (hD _ (by omega) (by omega)) (hD _ (by omega) (by omega))
    have kB : ∀ b, b < nb → BkRel D b := fun b hb => (g6 b hb).fr (by omega) d1 (fun a _ _ => hD _ (by omega) (by omega))
    have s2 : RowM (savC (kpC D A 0 0) 25 8) A := RowM.sav (k2'.fr (by rw [kpC_ne (by omega)]) (kpC_ne (by omega)) (kpC_ne (by omega))) |>.1
    have f0 : savC (kpC D A 0 0) 25 8 104 0 = nb := by rw [savC_104 (by omega), kpC_ne (by omega), hD _ (by omega) (by omega)]; exact g4
    have e3 : ∀ a, a ≠ 104 → a ≠ 111 → a ≠ 112 → a ≠ 116 → a ≠ 117 → a ≠ 118 → RmM (savC (kpC D A 0 0) 25 8) A (outB C A) nb a = D a := fun a h1 h2 h3 h4 h5 h6 => by rw [RmM_ne ⟨h1, h2, h3⟩, savC_ne ⟨h1, h4, h5⟩, kpC_ne h6]
    have m2 := RmM_row (w := outB C A) (b := nb) s2 k3 hw
    rw [eRm] at m2
    have m3 : SmM (RmM (savC (kpC D A 0 0) 25 8) A (outB C A) nb) nb := ⟨g1, fun b hb => by rw [e3 _ (by omega) (by omega) (by omega) (by omega) (by omega) (by omega), hD _ (by omega) (by omega)]; exact hSM.2.1 b hb, fun s hs => by rw [e3 _ (by omega) (by omega) (by omega) (by omega) (by omega) (by omega), hD _ (by omega) (by omega)]; exact hSM.2.2 s hs⟩
    unfold PX11_mend
    simp (disch := omega) only [J_add, J_sub, J_mul, J_lt, J_le, J_eq, xbr_true, xbr_false, xbr_pos, xbr_neg, Int.toNat_natCast, all_eq, ex_eq, t_0, q_0_0, q_0_1, q_0_2, q_0_3, q_0_4, q_0_5, q_0_6, q_0_7, q_0_8, q_0_9, i_0_10, p_0_10, i_0_11, p_0_11, i_0_12, p_0_12, t_1, q_1_0, t_3, q_3_0, q_3_1, i_3_2, p_3_2, i_3_3, p_3_3, t_80, q_80_0, t_88, q_88_0, t_90, q_90_0, t_92, q_92_0, q_92_1, q_92_2, i_92_3, p_92_3, i_92_4, p_92_4, t_96, q_96_0, i_96_1, p_96_1, i_96_2, p_96_2, i_96_3, p_96_3, t_100, q_100_0, i_100_1, p_100_1, i_100_2, p_100_2, i_100_3, p_100_3, t_104, q_104_1, q_104_2, q_104_3, q_104_4, q_104_5, q_104_6, q_104_8, q_104_9, q_104_11, q_104_12, q_104_18, q_104_21, q_104_22, q_104_23, q_104_24, q_104_26, q_104_27, q_104_28, q_104_30, q_104_31, i_104_0, p_104_0, i_104_7, p_104_7, i_104_10, p_104_10, i_104_13, p_104_13, i_104_14, p_104_14, i_104_15, p_104_15, i_104_16, p_104_16, i_104_17, p_104_17, i_104_19, p_104_19, i_104_20, p_104_20, i_104_25, p_104_25, i_104_29, p_104_29, a_2, w_2, a_81, w_81, a_89, w_89, a_91, w_91, a_93, w_93, a_94, w_94, a_95, w_95, a_105, w_105, a_106, w_106, a_107, w_107, a_108, w_108, a_109, w_109, a_110, w_110, a_111, w_111, a_112, w_112, a_113, w_113, a_114, w_114, a_115, w_115, a_116, w_116, a_117, w_117, a_118, w_118, a_119, w_119, a_120, w_120, a_121, w_121, a_122, w_122, a_123, w_123, a_124, w_124, m_findWrong k2' k3 g1 kB, m_save]
    rw [outB_congr d1, m_mend11 s2 k3 g1 f0 hw]
    exact m_mend44 m2 r1 m3 (by rw [RmM_104 (by omega)]; exact f0) (fun b hb => (kB b hb).fr (by omega) (fun a _ _ => e3 a (by omega) (by omega) (by omega) (by omega) (by omega) (by omega)) (fun a _ _ => e3 a (by omega) (by omega) (by omega) (by omega) (by omega) (by omega))) hf (fun o h1 h2 => by rw [e3 o (by omega) (by omega) (by omega) (by omega) (by omega) (by omega), d1 o h1 h2]) (fun s hs => by rw [e3 _ (by omega) (by omega) (by omega) (by omega) (by omega) (by omega), hD _ (by omega) (by omega)]) (fun b hb => by rw [e3 _ (by omega) (by omega) (by omega) (by omega) (by omega) (by omega), hD _ (by omega) (by omega)]) hm hm3
  have frm : ∀ D : Nat → Nat → Int, ∀ n a, a ≠ 104 → a ≠ 111 → a ≠ 112 → a ≠ 116 → a ≠ 117 → a ≠ 118 → PtM (C 110) (C 109) C (RmA A (outB C A) 24) (outB C A) (RmM (savC (kpC D A 0 0) 25 8) A (outB C A) nb) n a = D a := fun D n a h1 h2 h3 h4 h5 h6 => by rw [PtM_ne ⟨h1, h2, h3⟩, RmM_ne ⟨h1, h2, h3⟩, savC_ne ⟨h1, h4, h5⟩, kpC_ne h6]
  have frj : ∀ D : Nat → Nat → Int, ∀ n j, j ≠ 7 → j ≠ 20 → PtM (C 110) (C 109) C (RmA A (outB C A) 24) (outB C A) (RmM (savC (kpC D A 0 0) 25 8) A (outB C A) nb) n 104 j = D 104 j := fun D n j h1 h2 => by rw [PtM_104 h1, RmM_104 h1, savC_104 h2, kpC_ne (by omega)]
  by_cases c : PtF (C 110) (C 109) C (RmA A (outB C A) 24) (outB C A) 24 < 24
  · have eP : ∀ a, a ≠ 89 → a < 85 ∨ 87 < a → PtC (C 110) (C 109) C (RmA A (outB C A) 24) (outB C A) E (PtF (C 110) (C 109) C (RmA A (outB C A) 24) (outB C A) 24 + 1) a = C a := fun a h1 h2 => by rw [PtC_ne (by omega), e2 a h1 h2]
    have rP := PtC_row (W := C 110) (w' := C 109) (C := C) (b := PtF (C 110) (C 109) C (RmA A (outB C A) 24) (outB C A) 24 + 1) q2 r1 g1 hf
    generalize PtC (C 110) (C 109) C (RmA A (outB C A) 24) (outB C A) E (PtF (C 110) (C 109) C (RmA A (outB C A) 24) (outB C A) 24 + 1) = D at *
    have mr := mref D (fun a h1 h2 => eP a h1 (by omega))
    have k2' : RowM D A := k2.fr (by rw [eP _ (by omega) (by omega)]) (eP _ (by omega) (by omega)) (eP _ (by omega) (by omega))
    have was : WasM (PtM (C 110) (C 109) C (RmA A (outB C A) 24) (outB C A) (RmM (savC (kpC D A 0 0) 25 8) A (outB C A) nb) (PtF (C 110) (C 109) C (RmA A (outB C A) 24) (outB C A) 24 + 1)) A := (RowM.sav (k2'.fr (C' := kpC D A 0 0) (by rw [kpC_ne (by omega)]) (kpC_ne (by omega)) (kpC_ne (by omega)))).2.fr (by rw [PtM_104 (by omega), RmM_104 (by omega)]) (by rw [PtM_ne (by omega), RmM_ne (by omega)]) (by rw [PtM_ne (by omega), RmM_ne (by omega)])
    refine ⟨-1003, D, bakC (PtM (C 110) (C 109) C (RmA A (outB C A) 24) (outB C A) (RmM (savC (kpC D A 0 0) 25 8) A (outB C A) nb) (PtF (C 110) (C 109) C (RmA A (outB C A) 24) (outB C A) 24 + 1)) 25 8, A, fun K => ?_, fun K => ?_, ?_⟩
    · rw [clP, cl, if_pos c]
    · rw [mr, if_pos c]
    · refine h.work (fun a ha => ?_) (fun j hj => ?_) ⟨k1.fr ?_ ?_ ?_, was.bak l24, k3⟩ (rP.2.2.2.2.fr ?_ ?_ ?_)
      · unfold freeO at ha
        rw [bakC_ne (by omega), frm D _ _ (by omega) (by omega) (by omega) (by omega) (by omega) (by omega), eP _ (by omega) (by omega)]
      · rw [bakC_104 (by omega), frj D _ _ (by omega) (by omega), eP _ (by omega) (by omega)]
      all_goals rw [bakC_ne (by omega), frm D _ _ (by omega) (by omega) (by omega) (by omega) (by omega) (by omega)]
      all_goals rw [eP _ (by omega) (by omega)]
  · have eP : ∀ a, a ≠ 89 → a < 82 ∨ 87 < a → cpC (PtC (C 110) (C 109) C (RmA A (outB C A) 24) (outB C A) E 24) 82 85 24 a = C a := fun a h1 h2 => by rw [cpC_ne (by omega), PtC_ne (by omega), e2 a h1 (by omega)]
    have rP := PtC_row (W := C 110) (w' := C 109) (C := C) (b := 24) q2 r1 g1 hf
    have pOk := (PtA_ok (W := C 110) (w' := C 109) (C := C) (b := 24) r1 hf).1
    have rQ := RowC.cp (r := 82) rP pOk g1
    have rR : RowOk (cpC (PtC (C 110) (C 109) C (RmA A (outB C A) 24) (outB C A) E 24) 82 85 24) 85 := rP.2.2.2.2.fr (cpC_ne (by omega)) (cpC_ne (by omega)) (cpC_ne (by omega))
    generalize cpC (PtC (C 110) (C 109) C (RmA A (outB C A) 24) (outB C A) E 24) 82 85 24 = D at *
    have mr := mref D eP
    have k2' : RowM D A := k2.fr (by rw [eP _ (by omega) (by omega)]) (eP _ (by omega) (by omega)) (eP _ (by omega) (by omega))
    have s2 : RowM (savC (kpC D A 0 0) 25 8) A := (RowM.sav (k2'.fr (C' := kpC D A 0 0) (by rw [kpC_ne (by omega)]) (kpC_ne (by omega)) (kpC_ne (by omega)))).1
    have m2 := RmM_row (w := outB C A) (b := nb) s2 k3 hw
    rw [eRm] at m2
    have m4 := PtM_row (W := C 110) (w' := C 109) (C := C) (b := nb) m2 r1 g1 hf
    rw [← PtA_same (W := C 110) (w' := C 109) (C := C) (A := RmA A (outB C A) 24) hwn g1] at m4
    refine ⟨(pc m 24 : Nat), D, PtM (C 110) (C 109) C (RmA A (outB C A) 24) (outB C A) (RmM (savC (kpC D A 0 0) 25 8) A (outB C A) nb) nb, PtA (C 110) (C 109) C (RmA A (outB C A) 24) (outB C A) 24, fun K => ?_, fun K => ?_, ?_⟩
    · rw [clP, cl, if_neg c]
    · rw [mr, if_neg c]
    · refine h.work (fun a ha => ?_) (fun j hj => ?_) ⟨rQ.fr ?_ ?_ ?_, m4, pOk⟩ (rR.fr ?_ ?_ ?_)
      · unfold freeO at ha
        rw [frm D _ _ (by omega) (by omega) (by omega) (by omega) (by omega) (by omega), eP _ (by omega) (by omega)]
      · rw [frj D _ _ (by omega) (by omega), eP _ (by omega) (by omega)]
      all_goals rw [frm D _ _ (by omega) (by omega) (by omega) (by omega) (by omega) (by omega)]
end MEND
