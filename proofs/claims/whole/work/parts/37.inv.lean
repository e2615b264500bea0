/-! WHAT HOLDS BETWEEN CALLS: class and reference say the same -/
/-- a book's mark, byte by byte, as the reference writes it: length and bytes -/
def mkA (C : Nat → Nat → Int) (b : Nat) : List Int :=
  (97 + ptC C b 0) :: ((if 0 ≤ ptC C b 1 then [97 + ptC C b 1] else []) ++ ((List.range (C 106 b).toNat).map (fun j => 48 + ptC C b (2 + j)) ++ ((if 0 < C 107 b then 46 :: (List.range (C 107 b).toNat).map (fun j => 48 + ptC C b (6 + j)) else []) ++ ((if 0 ≤ ptC C b 10 then 46 :: (97 + ptC C b 10) :: (List.range (C 108 b).toNat).map (fun j => 48 + ptC C b (11 + j)) else []) ++ (if 0 ≤ ptC C b 15 then [32, 121, 48 + ptC C b 15 / 1000, 48 + ptC C b 15 / 100 % 10, 48 + ptC C b 15 / 10 % 10, 48 + ptC C b 15 % 10] else [])))))
def Ltr (C : Nat → Nat → Int) (b : Nat) : Prop := C (9 + 3 * b) 1 = (mkA C b).length ∧ ∀ i v, (mkA C b)[i]? = some v → C (10 + 3 * b) i = v
def GText (C : Nat → Nat → Int) : Prop := (0 ≤ C 1 1 ∧ C 1 1 ≤ 600) ∧ C 104 13 = C 1 1 ∧ ∀ i : Nat, (i : Int) < C 1 1 → C 114 i = C 2 i ∧ 0 ≤ C 2 i ∧ C 2 i ≤ 255
/-- the reference's figures are figures, also where no book is -/
def GDig (C : Nat → Nat → Int) : Prop := ∀ b, b < 24 → ∀ j, (2 ≤ j ∧ j < 10 ∨ 11 ≤ j ∧ j < 15) → 0 ≤ ptC C b j ∧ ptC C b j ≤ 9
def GBooks (C : Nat → Nat → Int) (nb : Nat) : Prop := nb ≤ 24 ∧ C 3 2 = nb ∧ C 3 3 = nb ∧ C 104 0 = nb ∧ BooksOk C ∧ (∀ b, b < nb → BkRel C b) ∧ (∀ b, b < nb → Ltr C b) ∧ GDig C ∧ ∀ b, b < nb → 1 ≤ ptC C b 2
def GFault (C : Nat → Nat → Int) : Prop := C 104 14 = C 0 10
def GList (C : Nat → Nat → Int) (nb : Nat) : Prop := C 104 10 = C 0 11 ∧ 0 ≤ C 0 11 ∧ C 0 11 < 2 ^ nb
def GSeed (C : Nat → Nat → Int) : Prop := C 104 29 = C 0 12 ∧ 0 ≤ C 0 12 ∧ C 0 12 < 2147483648
def GWid (C : Nat → Nat → Int) : Prop := ∀ s, s < 8 → C 110 s = C 81 s ∧ 1 ≤ C 81 s ∧ C 81 s ≤ 60
def GRow (C : Nat → Nat → Int) (nb : Nat) (A : Rw) : Prop := RowC C 82 A ∧ RowM C A ∧ RwOk A nb
def GHab (C : Nat → Nat → Int) : Prop := ∀ k, k < 5 → C 113 k = C 91 k ∧ 0 ≤ C 91 k ∧ C 91 k ≤ 99
/-- image i of the reference is A -/
def ImgM (C : Nat → Nat → Int) (i : Nat) (A : Rw) : Prop := C 123 (40 * i) = A.1 ∧ A.1 ≤ 24 ∧ (∀ k, k < A.1 → C 123 (40 * i + 11 + k) = A.2.1 k) ∧ ∀ s, s < 8 → C 123 (40 * i + 3 + s) = A.2.2 s
def GImg (C : Nat → Nat → Int) (nb : Nat) (i : Nat) : Prop := C (96 + 4 * i) 3 = C 124 i ∧ (C 124 i = 0 ∨ (C 124 i = 1 ∧ ∃ A, RowC C (97 + 4 * i) A ∧ RwOk A nb ∧ ImgM C i A ∧ (C (96 + 4 * i) 1 = C 123 (40 * i + 1) ∧ 0 ≤ C 123 (40 * i + 1) ∧ C 123 (40 * i + 1) < 2 ^ nb) ∧ (C (96 + 4 * i) 2 = C 123 (40 * i + 2) ∧ 0 ≤ C 123 (40 * i + 2) ∧ C 123 (40 * i + 2) < 2147483648)))
def Inv (C : Nat → Nat → Int) (nb : Nat) (A : Rw) : Prop := GText C ∧ GBooks C nb ∧ GFault C ∧ GList C nb ∧ GSeed C ∧ GWid C ∧ GRow C nb A ∧ RowOk C 85 ∧ GHab C ∧ GImg C nb 0 ∧ GImg C nb 1
section INV
variable {C C' : Nat → Nat → Int} {nb : Nat} {A : Rw}
theorem GText.fr (h : GText C) (e1 : C' 1 = C 1) (e2 : C' 2 = C 2) (e3 : C' 104 13 = C 104 13) (e4 : C' 114 = C 114) : GText C' := by
  unfold GText at *
  rw [e1, e2, e3, e4]; exact h
theorem GBooks.fr (h : GBooks C nb) (e1 : C' 3 = C 3) (e2 : C' 104 0 = C 104 0) (e3 : ∀ a, 5 ≤ a → a ≤ 79 → C' a = C a) (e4 : ∀ a, 105 ≤ a → a ≤ 109 → C' a = C a) : GBooks C' nb := by
  obtain ⟨h1, h2, h3, h4, h5, h6, h7, h8⟩ := h
  have f105 := e4 105 (by omega) (by omega)
  have f106 := e4 106 (by omega) (by omega)
  have f107 := e4 107 (by omega) (by omega)
  have f108 := e4 108 (by omega) (by omega)
  have f109 := e4 109 (by omega) (by omega)
  have fp : ∀ b, ptC C' b = ptC C b := fun b => by funext j; unfold ptC; rw [f105]
  refine ⟨h1, by rw [e1]; exact h2, by rw [e1]; exact h3, by rw [e2]; exact h4, fun o ho => ?_, fun b hb => ?_, fun b hb => ?_, by unfold GDig; simp only [fp]; exact h8.1, by simp only [fp]; exact h8.2⟩
  · obtain ⟨i, hi, rfl⟩ := isBook_i ho
    have := h5 _ ho
    unfold BookOk at this ⊢
    rw [e3 (5 + 3 * i) (by omega) (by omega)]
    exact this
  · have := h6 b hb
    unfold BkRel at this ⊢
    rw [e3 (8 + 3 * b) (by omega) (by omega), f106, f107, f108, f109, fp]
    exact this
  · have := h7 b hb
    unfold Ltr mkA at this ⊢
    rw [e3 (9 + 3 * b) (by omega) (by omega), e3 (10 + 3 * b) (by omega) (by omega), f106, f107, f108, fp]
    exact this
theorem RowOk.fr {r : Nat} (h : RowOk C r) (e0 : C' r = C r) (e1 : C' (r + 1) = C (r + 1)) (e2 : C' (r + 2) = C (r + 2)) : RowOk C' r := by
  unfold RowOk at *
  rw [e0, e1, e2]; exact h
theorem RowC.fr {r : Nat} (h : RowC C r A) (e0 : C' r = C r) (e1 : C' (r + 1) = C (r + 1)) (e2 : C' (r + 2) = C (r + 2)) : RowC C' r A := by
  obtain ⟨h1, h2, h3, h4, h5⟩ := h
  refine ⟨by rw [e0]; exact h1, by rw [e1]; exact h2, by rw [e2]; exact h3, by rw [e2]; exact h4, h5.fr e0 e1 e2⟩
theorem RowM.fr (h : RowM C A) (e0 : C' 104 7 = C 104 7) (e1 : C' 111 = C 111) (e2 : C' 112 = C 112) : RowM C' A := by
  unfold RowM at *
  rw [e0, e1, e2]; exact h
theorem GRow.fr (h : GRow C nb A) (e0 : ∀ a, 82 ≤ a → a ≤ 84 → C' a = C a) (e1 : C' 104 7 = C 104 7) (e2 : C' 111 = C 111) (e3 : C' 112 = C 112) : GRow C' nb A :=
  ⟨h.1.fr (e0 82 (by omega) (by omega)) (e0 83 (by omega) (by omega)) (e0 84 (by omega) (by omega)), h.2.1.fr e1 e2 e3, h.2.2⟩
theorem GHab.fr (h : GHab C) (e1 : C' 91 = C 91) (e2 : C' 113 = C 113) : GHab C' := by
  unfold GHab at *
  rw [e1, e2]; exact h
theorem GWid.fr (h : GWid C) (e1 : C' 81 = C 81) (e2 : C' 110 = C 110) : GWid C' := by
  unfold GWid at *
  rw [e1, e2]; exact h
theorem GImg.fr {i : Nat} (h : GImg C nb i) (e0 : C' (96 + 4 * i) = C (96 + 4 * i)) (e1 : ∀ a, 97 + 4 * i ≤ a → a ≤ 99 + 4 * i → C' a = C a) (e2 : C' 123 = C 123) (e3 : C' 124 = C 124) : GImg C' nb i := by
  obtain ⟨h1, h2⟩ := h
  refine ⟨by rw [e0, e3]; exact h1, ?_⟩
  rcases h2 with h2 | ⟨h2, A', h3, h4, h5, h6, h7⟩
  · left; rw [e3]; exact h2
  · right
    refine ⟨by rw [e3]; exact h2, A', h3.fr (e1 _ (by omega) (by omega)) (e1 _ (by omega) (by omega)) (e1 _ (by omega) (by omega)), h4, ?_, by rw [e0, e2]; exact h6, by rw [e0, e2]; exact h7⟩
    unfold ImgM at *
    rw [e2]; exact h5
theorem Inv.sm (h : Inv C nb A) : Sm C nb := ⟨h.2.1.1, h.2.1.2.1, h.2.1.2.2.2.2.1, fun s hs => by have := h.2.2.2.2.2.1 s hs; omega⟩
theorem Inv.smm (h : Inv C nb A) : SmM C nb := ⟨h.2.1.1, fun b hb => by have := h.2.1.2.2.2.2.2.1 b hb; unfold BkRel at this; omega, fun s hs => by have := h.2.2.2.2.2.1 s hs; omega⟩
theorem Inv.w (h : Inv C nb A) : ∀ b, b < nb → wC C b = C 109 b := fun b hb => by have := h.2.1.2.2.2.2.2.1 b hb; unfold BkRel at this; unfold wC; omega
theorem Inv.W (h : Inv C nb A) : ∀ s, s < 8 → C 81 s = C 110 s := fun s hs => (h.2.2.2.2.2.1 s hs).1.symm
theorem Inv.put (h : Inv C nb A) {b : Nat} (hb : b < nb) (hq : ∀ i, i < A.1 → A.2.1 i ≠ b) {k : Int} : putA (C 81) (wC C) C A b k = putA (C 110) (C 109) C A b k := by
  have hA := h.2.2.2.2.2.2.1.2.2
  obtain ⟨s1, s2, s3⟩ := spotS_b hA (spotA_le C A b k)
  unfold putA
  exact pshL_congr (hA.ins hb hq (spotA_le C A b k) s1) (by omega) h.W h.w
end INV
