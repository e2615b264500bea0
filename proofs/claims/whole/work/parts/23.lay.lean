/-! THE LAYOUT: where everything lies behind the two constructors (by program): kinds and references by their distance from the start z -/
def kdL : List (Nat × Nat) := [(11, 13), (2, 2), (100, 600), (3, 4), (102, 24), (1, 12), (2, 2), (100, 23), (1, 12), (2, 2), (100, 23), (1, 12), (2, 2), (100, 23), (1, 12), (2, 2), (100, 23), (1, 12), (2, 2), (100, 23), (1, 12), (2, 2), (100, 23), (1, 12), (2, 2), (100, 23), (1, 12), (2, 2), (100, 23), (1, 12), (2, 2), (100, 23), (1, 12), (2, 2), (100, 23), (1, 12), (2, 2), (100, 23), (1, 12), (2, 2), (100, 23), (1, 12), (2, 2), (100, 23), (1, 12), (2, 2), (100, 23), (1, 12), (2, 2), (100, 23), (1, 12), (2, 2), (100, 23), (1, 12), (2, 2), (100, 23), (1, 12), (2, 2), (100, 23), (1, 12), (2, 2), (100, 23), (1, 12), (2, 2), (100, 23), (1, 12), (2, 2), (100, 23), (1, 12), (2, 2), (100, 23), (1, 12), (2, 2), (100, 23), (1, 12), (2, 2), (100, 23), (1, 12), (2, 2), (100, 23), (9, 1), (100, 8), (7, 3), (100, 24), (100, 24), (7, 3), (100, 24), (100, 24), (10, 1), (100, 24), (4, 1), (100, 5), (8, 5), (100, 8), (100, 8), (100, 8), (5, 4), (7, 3), (100, 24), (100, 24), (5, 4), (7, 3), (100, 24), (100, 24), (12, 32), (100, 384), (100, 24), (100, 24), (100, 24), (100, 24), (100, 8), (100, 25), (100, 8), (100, 5), (100, 600), (100, 24), (100, 25), (100, 8), (100, 650), (100, 24), (100, 5), (100, 5), (100, 8), (100, 80), (101, 2)]
def kd (o : Nat) : Nat × Nat := kdL.getD o (0, 0)
def rfL : List (Nat × Nat × Nat) := [(0, 0, 1), (0, 1, 3), (0, 2, 80), (0, 3, 82), (0, 4, 85), (0, 5, 88), (0, 6, 90), (0, 7, 92), (0, 8, 96), (0, 9, 100), (1, 0, 2), (3, 0, 4), (3, 1, 5), (5, 0, 6), (6, 0, 7), (8, 0, 9), (9, 0, 10), (11, 0, 12), (12, 0, 13), (14, 0, 15), (15, 0, 16), (17, 0, 18), (18, 0, 19), (20, 0, 21), (21, 0, 22), (23, 0, 24), (24, 0, 25), (26, 0, 27), (27, 0, 28), (29, 0, 30), (30, 0, 31), (32, 0, 33), (33, 0, 34), (35, 0, 36), (36, 0, 37), (38, 0, 39), (39, 0, 40), (41, 0, 42), (42, 0, 43), (44, 0, 45), (45, 0, 46), (47, 0, 48), (48, 0, 49), (50, 0, 51), (51, 0, 52), (53, 0, 54), (54, 0, 55), (56, 0, 57), (57, 0, 58), (59, 0, 60), (60, 0, 61), (62, 0, 63), (63, 0, 64), (65, 0, 66), (66, 0, 67), (68, 0, 69), (69, 0, 70), (71, 0, 72), (72, 0, 73), (74, 0, 75), (75, 0, 76), (77, 0, 78), (78, 0, 79), (80, 0, 81), (82, 0, 83), (82, 1, 84), (85, 0, 86), (85, 1, 87), (97, 0, 98), (97, 1, 99), (101, 0, 102), (101, 1, 103), (88, 0, 89), (90, 0, 91), (92, 0, 93), (92, 1, 94), (92, 2, 95), (96, 0, 97), (100, 0, 101), (104, 1, 105), (104, 2, 106), (104, 3, 107), (104, 4, 108), (104, 5, 109), (104, 6, 110), (104, 8, 111), (104, 9, 112), (104, 11, 113), (104, 12, 114), (104, 18, 115), (104, 21, 116), (104, 22, 117), (104, 23, 118), (104, 24, 119), (104, 26, 120), (104, 27, 121), (104, 28, 122), (104, 30, 123), (104, 31, 124)]
def rf (o k : Nat) : Option Nat := if o = 4 then (if k < 24 then some (8 + 3 * k) else none) else (rfL.find? (fun q => q.1 == o && q.2.1 == k)).map (fun q => q.2.2)
def ad (z o : Nat) : Nat := z + o
/-- places that nothing uses hold null in some objects -/
def nl (o k : Nat) : Bool := decide ((kd o).2 ≤ k) && ((kd o).1 == 4 || (kd o).1 == 9 || (kd o).1 == 10 || (kd o).1 == 12 || (kd o).1 == 102)
def iS (o k : Nat) : Prop := rf o k = none ∧ nl o k = false
/-- memory with the ints C in the layout from z on; elsewhere as g has it -/
def lay (z : Nat) (g : Mem) (C : Nat → Nat → Int) : Mem :=
  (fun a => if z ≤ a ∧ a < z + 125 then kd (a - z) else g.1 a, fun a k => if z ≤ a ∧ a < z + 125 then (match rf (a - z) k with | some r => .ref (ad z r) | none => if nl (a - z) k then .null else .int (J (C (a - z) k))) else g.2.1 a k, g.2.2)
def up (C : Nat → Nat → Int) (o k : Nat) (v : Int) : Nat → Nat → Int := fun a j => if a = o ∧ j = k then v else C a j
def okT (t o : Nat) : Bool := (kd o).1 == t && decide (o < 125)
def okI (t o k : Nat) : Bool := (kd o).1 == t && decide (o < 125) && (rf o k).isNone && !(nl o k)
def okR (t o k r : Nat) : Bool := (kd o).1 == t && decide (o < 125) && (rf o k == some r)
def okA (kn o N : Nat) : Bool := kd o == (kn, N) && decide (o < 125) && decide (o ≠ 4) && rfL.all (fun q => q.1 != o) && (kn == 100 || kn == 101) && decide (N ≤ 1000)
section LAY
variable {z : Nat} {g : Mem} {C : Nat → Nat → Int} {o k t r N : Nat}
theorem ad_in (h : o < 125) : z ≤ ad z o ∧ ad z o < z + 125 := by unfold ad; omega
theorem ad_sub : ad z o - z = o := by unfold ad; omega
theorem lay_ty (h : o < 125) : (lay z g C).1 (ad z o) = kd o := by
  show (if z ≤ ad z o ∧ ad z o < z + 125 then kd (ad z o - z) else g.1 (ad z o)) = _
  rw [if_pos (ad_in h), ad_sub]
theorem lay_i (h : o < 125) (hr : iS o k) : (lay z g C).2.1 (ad z o) k = .int (J (C o k)) := by
  show (if z ≤ ad z o ∧ ad z o < z + 125 then (match rf (ad z o - z) k with | some r => Value.ref (ad z r) | none => if nl (ad z o - z) k then .null else .int (J (C (ad z o - z) k))) else g.2.1 (ad z o) k) = _
  rw [if_pos (ad_in h), ad_sub, hr.1]
  show (if nl o k = true then Value.null else _) = _
  rw [hr.2]; rfl
theorem lay_r (h : o < 125) (hr : rf o k = some r) : (lay z g C).2.1 (ad z o) k = .ref (ad z r) := by
  show (if z ≤ ad z o ∧ ad z o < z + 125 then (match rf (ad z o - z) k with | some r => Value.ref (ad z r) | none => if nl (ad z o - z) k then .null else .int (J (C (ad z o - z) k))) else g.2.1 (ad z o) k) = _
  rw [if_pos (ad_in h), ad_sub, hr]
theorem lay_set {v : Int} (h : o < 125) (hr : iS o k) : xset (lay z g C) (ad z o) k (.int (J v)) = lay z g (up C o k v) := by
  unfold xset lay
  refine Prod.ext rfl (Prod.ext ?_ rfl)
  funext b j
  show (if b = ad z o ∧ j = k then Value.int (J v) else (if z ≤ b ∧ b < z + 125 then (match rf (b - z) j with | some r => Value.ref (ad z r) | none => if nl (b - z) j then .null else .int (J (C (b - z) j))) else g.2.1 b j)) = _
  by_cases hb : z ≤ b ∧ b < z + 125
  · show _ = (if z ≤ b ∧ b < z + 125 then _ else _)
    rw [if_pos hb, if_pos hb]
    have e : (b = ad z o) = (b - z = o) := by unfold ad; apply propext; omega
    by_cases c : b - z = o ∧ j = k
    · rw [if_pos ⟨e ▸ c.1, c.2⟩]
      rw [c.1, c.2, hr.1]
      show _ = (if nl o k = true then Value.null else Value.int (J (up C o k v o k)))
      rw [hr.2]
      simp [up]
    · rw [if_neg (fun q => c ⟨e ▸ q.1, q.2⟩)]
      have e2 : up C o k v (b - z) j = C (b - z) j := by unfold up; rw [if_neg c]
      rw [e2]
  · show _ = (if z ≤ b ∧ b < z + 125 then _ else _)
    rw [if_neg hb, if_neg hb, if_neg]
    intro q
    apply hb
    rw [q.1]
    exact ad_in h
theorem okT_s (h : okT t o = true) : (kd o).1 = t ∧ o < 125 := by
  simpa [okT] using h
theorem okI_s (h : okI t o k = true) : ((kd o).1 = t ∧ o < 125) ∧ iS o k := by
  have h2 : (((kd o).1 = t ∧ o < 125) ∧ rf o k = none) ∧ nl o k = false := by simpa [okI] using h
  exact ⟨h2.1.1, h2.1.2, h2.2⟩
theorem okR_s (h : okR t o k r = true) : ((kd o).1 = t ∧ o < 125) ∧ rf o k = some r := by
  simpa [okR] using h
theorem okA_s {kn : Nat} (h : okA kn o N = true) : kd o = (kn, N) ∧ o < 125 ∧ (∀ k, iS o k) ∧ N ≤ 1000 := by
  simp only [okA, Bool.and_eq_true, Bool.or_eq_true, beq_iff_eq, decide_eq_true_eq, List.all_eq_true, bne_iff_ne] at h
  obtain ⟨⟨⟨⟨⟨h1, h2⟩, h3⟩, h4⟩, h6⟩, h5⟩ := h
  refine ⟨h1, h2, fun k => ⟨?_, ?_⟩, h5⟩
  rotate_left
  · unfold nl
    rw [h1]
    rcases h6 with rfl | rfl
    · simp
    · simp
  unfold rf
  rw [if_neg h3]
  have : rfL.find? (fun q => q.1 == o && q.2.1 == k) = none := by
    rw [List.find?_eq_none]
    intro q hq
    have := h4 q hq
    simp [this]
  rw [this]; rfl
theorem tS_lay {K : Prop} (h : okT t o = true) : tS (lay z g C) t (ad z o) K = K := by
  obtain ⟨h1, h2⟩ := okT_s h
  unfold tS
  rw [lay_ty h2, h1]
  simp
theorem gI_lay {K : Int32 → Prop} (h : okI t o k = true) : gI (lay z g C) t (ad z o) k K = K (J (C o k)) := by
  obtain ⟨⟨h1, h2⟩, h3⟩ := okI_s h
  unfold gI
  rw [lay_ty h2, h1, lay_i h2 h3]
  apply propext
  constructor
  · rintro ⟨-, v, e, h⟩
    cases e; exact h
  · exact fun h => ⟨rfl, _, rfl, h⟩
theorem gR_lay {K : Nat → Prop} (h : okR t o k r = true) : gR (lay z g C) t (ad z o) k K = K (ad z r) := by
  obtain ⟨⟨h1, h2⟩, h3⟩ := okR_s h
  unfold gR
  rw [lay_ty h2, h1, lay_r h2 h3]
  apply propext
  constructor
  · rintro ⟨-, v, e, h⟩
    cases e; exact h
  · exact fun h => ⟨rfl, _, rfl, h⟩
theorem pF_lay {K : Mem → Prop} {v : Int} (h : okI t o k = true) : pF (lay z g C) t (ad z o) k (.int (J v)) K = K (lay z g (up C o k v)) := by
  obtain ⟨⟨h1, h2⟩, h3⟩ := okI_s h
  unfold pF
  rw [lay_ty h2, h1, lay_set h2 h3, all_eq]
  simp
theorem aI_lay {K : Int32 → Prop} {i : Int} (h : okA 100 o N = true) (h1 : 0 ≤ i) (h2 : i < N) : aI (lay z g C) (ad z o) (J i) K = K (J (C o i.toNat)) := by
  obtain ⟨e1, e2, e3, e4⟩ := okA_s h
  have hv : vp_in (J i) N = True := by rw [vp_J (by omega) (by omega)]; exact eq_true ⟨h1, h2⟩
  unfold aI
  rw [lay_ty e2, e1, J_nat (by omega) (by omega), lay_i e2 (e3 _)]
  apply propext
  constructor
  · rintro ⟨-, -, v, e, h⟩
    cases e; exact h
  · exact fun h => ⟨rfl, hv ▸ trivial, _, rfl, h⟩
theorem aS_lay {K : Mem → Prop} {i v : Int} (h : okA 100 o N = true) (h1 : 0 ≤ i) (h2 : i < N) : aS (lay z g C) (ad z o) (J i) (J v) K = K (lay z g (up C o i.toNat v)) := by
  obtain ⟨e1, e2, e3, e4⟩ := okA_s h
  have hv : vp_in (J i) N = True := by rw [vp_J (by omega) (by omega)]; exact eq_true ⟨h1, h2⟩
  unfold aS
  rw [lay_ty e2, e1, J_nat (by omega) (by omega), lay_set e2 (e3 _), all_eq]
  apply propext
  constructor
  · rintro ⟨-, -, h⟩
    exact h
  · exact fun h => ⟨rfl, hv ▸ trivial, h⟩
theorem zI_lay {K : Int32 → Prop} {i : Int} (h : okA 101 o N = true) (h1 : 0 ≤ i) (h2 : i < N) : zI (lay z g C) (ad z o) (J i) K = K (J (C o i.toNat)) := by
  obtain ⟨e1, e2, e3, e4⟩ := okA_s h
  have hv : vp_in (J i) N = True := by rw [vp_J (by omega) (by omega)]; exact eq_true ⟨h1, h2⟩
  unfold zI
  rw [lay_ty e2, e1, J_nat (by omega) (by omega), lay_i e2 (e3 _)]
  apply propext
  constructor
  · rintro ⟨-, -, v, e, h⟩
    cases e; exact h
  · exact fun h => ⟨rfl, hv ▸ trivial, _, rfl, h⟩
theorem zS_lay {K : Mem → Prop} {i : Int} (h : okA 101 o N = true) (h1 : 0 ≤ i) (h2 : i < N) : zS (lay z g C) (ad z o) (J i) (J 1) K = K (lay z g (up C o i.toNat 1)) := by
  obtain ⟨e1, e2, e3, e4⟩ := okA_s h
  have hv : vp_in (J i) N = True := by rw [vp_J (by omega) (by omega)]; exact eq_true ⟨h1, h2⟩
  have hn : narrow .boolean (.int (J 1)) = .int (J 1) := by decide
  unfold zS
  rw [lay_ty e2, e1, J_nat (by omega) (by omega), hn, lay_set e2 (e3 _), all_eq]
  apply propext
  constructor
  · rintro ⟨-, -, h⟩
    exact h
  · exact fun h => ⟨rfl, hv ▸ trivial, h⟩
theorem aL_lay {K : Int32 → Prop} (h : okA 100 o N = true) : aL (lay z g C) 100 (ad z o) K = K (J N) := by
  obtain ⟨e1, e2, e3, e4⟩ := okA_s h
  unfold aL
  rw [lay_ty e2, e1, all_eq, J_ofNat]
  simp
theorem aLB_lay {K : Int32 → Prop} : aL (lay z g C) 102 (ad z 4) K = K (J 24) := by
  unfold aL
  rw [lay_ty (by omega), all_eq, J_ofNat]
  simp [kd, kdL]
theorem aR_lay {K : Nat → Prop} {i : Int} (h1 : 0 ≤ i) (h2 : i < 24) : aR (lay z g C) (ad z 4) (J i) K = K (ad z (8 + 3 * i.toNat)) := by
  have e1 : kd 4 = (102, 24) := rfl
  have hv : vp_in (J i) 24 = True := by rw [vp_J (by omega) (by omega)]; exact eq_true ⟨h1, by omega⟩
  have e3 : rf 4 i.toNat = some (8 + 3 * i.toNat) := by unfold rf; rw [if_pos rfl, if_pos (by omega)]
  unfold aR
  rw [lay_ty (by omega), e1, J_nat (by omega) (by omega), lay_r (by omega) e3]
  apply propext
  constructor
  · rintro ⟨-, -, v, e, h⟩
    cases e; exact h
  · exact fun h => ⟨rfl, hv ▸ trivial, _, rfl, h⟩
/-! rows, books and bytes, wherever they lie -/
def isRow (r : Nat) : Prop := r = 82 ∨ r = 85 ∨ r = 97 ∨ r = 101
theorem row_T (h : isRow r) : okT 7 r = true := by rcases h with rfl | rfl | rfl | rfl <;> rfl
theorem row_len (h : isRow r) : okI 7 r 2 = true := by rcases h with rfl | rfl | rfl | rfl <;> rfl
theorem row_line (h : isRow r) : okR 7 r 0 (r + 1) = true := by rcases h with rfl | rfl | rfl | rfl <;> rfl
theorem row_sh (h : isRow r) : okR 7 r 1 (r + 2) = true := by rcases h with rfl | rfl | rfl | rfl <;> rfl
theorem row_lineA (h : isRow r) : okA 100 (r + 1) 24 = true := by rcases h with rfl | rfl | rfl | rfl <;> rfl
theorem row_shA (h : isRow r) : okA 100 (r + 2) 24 = true := by rcases h with rfl | rfl | rfl | rfl <;> rfl
def isBook (b : Nat) : Prop := b = 5 ∨ ∃ i, i < 24 ∧ b = 8 + 3 * i
theorem book_all : ∀ i, i < 25 → okT 1 (5 + 3 * i) = true ∧ (∀ k, k < 12 → 1 ≤ k → okI 1 (5 + 3 * i) k = true) ∧ okR 1 (5 + 3 * i) 0 (5 + 3 * i + 1) = true ∧ okT 2 (5 + 3 * i + 1) = true ∧ okI 2 (5 + 3 * i + 1) 1 = true ∧ okR 2 (5 + 3 * i + 1) 0 (5 + 3 * i + 1 + 1) = true ∧ okA 100 (5 + 3 * i + 1 + 1) 23 = true := by decide +kernel
theorem isBook_i {b : Nat} (h : isBook b) : ∃ i, i < 25 ∧ b = 5 + 3 * i := by
  rcases h with rfl | ⟨i, hi, rfl⟩
  · exact ⟨0, by omega, rfl⟩
  · exact ⟨i + 1, by omega, by omega⟩
theorem book_T {b : Nat} (h : isBook b) : okT 1 b = true := by obtain ⟨i, hi, rfl⟩ := isBook_i h; exact (book_all i hi).1
theorem book_f {b : Nat} (h : isBook b) {k : Nat} (hk : k < 12) (h1 : 1 ≤ k) : okI 1 b k = true := by obtain ⟨i, hi, rfl⟩ := isBook_i h; exact (book_all i hi).2.1 k hk h1
theorem book_s {b : Nat} (h : isBook b) : okR 1 b 0 (b + 1) = true := by obtain ⟨i, hi, rfl⟩ := isBook_i h; exact (book_all i hi).2.2.1
/-- Bytes: the text's, and marks' -/
def isBytes (b N : Nat) : Prop := okT 2 b = true ∧ okI 2 b 1 = true ∧ okR 2 b 0 (b + 1) = true ∧ okA 100 (b + 1) N = true
theorem text_B : isBytes 1 600 := ⟨rfl, rfl, rfl, rfl⟩
theorem book_B {b : Nat} (h : isBook b) : isBytes (b + 1) 23 := by obtain ⟨i, hi, rfl⟩ := isBook_i h; exact (book_all i hi).2.2.2
end LAY
