/-! READING A TEXT: what a clause says, place by place -/
def isLt (x : Int) : Bool := decide (97 ≤ x ∧ x ≤ 122)
def isFg (x : Int) : Bool := decide (48 ≤ x ∧ x ≤ 57)
theorem isLt_t {x : Int} (h : isLt x = true) : 97 ≤ x ∧ x ≤ 122 := of_decide_eq_true h
theorem isFg_t {x : Int} (h : isFg x = true) : 48 ≤ x ∧ x ≤ 57 := of_decide_eq_true h
theorem isLt_f {x : Int} (h : ¬ isLt x = true) : ¬ (97 ≤ x ∧ x ≤ 122) := fun q => h (decide_eq_true q)
theorem isFg_f {x : Int} (h : ¬ isFg x = true) : ¬ (48 ≤ x ∧ x ≤ 57) := fun q => h (decide_eq_true q)
section SCAN
variable (tx : Nat → Int) (n : Nat)
/-- figures from p on, four at most -/
def fgN (p : Nat) : Nat := fst1 4 (fun i => !isFg (tx (p + i)))
def fgF (p : Nat) : Nat := if fgN tx p = 0 then 1 else if isFg (tx (p + fgN tx p)) then 2 else 0
def dgs (p : Nat) : Nat → Int := fun j => tx (p + j) - 48
def fgL (p k : Nat) : List Int := (List.range k).map (fun j => tx (p + j))
/-- the first place from p on that is not blank -/
def skp (p : Nat) : Nat := p + fst1 (n - p) (fun i => tx (p + i) != 32)
def q1 (p : Nat) : Nat := if isLt (tx (p + 1)) then p + 2 else p + 1
def q2 (p : Nat) : Nat := p + fgN tx p
def hasD (p : Nat) : Bool := decide (tx p = 46) && isFg (tx (p + 1))
def q3 (p : Nat) : Nat := if hasD tx p then p + 1 + fgN tx (p + 1) else p
def q4 (p : Nat) : Nat := if tx p = 46 then p + 2 + fgN tx (p + 2) else p
def hasY (p : Nat) : Bool := decide (p < skp tx n p) && decide (tx (skp tx n p) = 121)
def yrT (p : Nat) : Int := wholeD (dgs tx (skp tx n p + 1)) 4
def q5 (p : Nat) : Nat := if hasY tx n p then skp tx n (skp tx n p + 5) else skp tx n p
def parT (p : Nat) : Bool := if hasY tx n p then decide (skp tx n p + 5 < skp tx n (skp tx n p + 5)) else decide (p < skp tx n p)
def hasW (p : Nat) : Bool := parT tx n p && decide (tx (q5 tx n p) = 119)
def q6 (p : Nat) : Nat := if hasW tx n p then skp tx n (q5 tx n p + 2) else q5 tx n p
def p1T (p : Nat) : Nat := q1 tx p
def p2T (p : Nat) : Nat := q2 tx (p1T tx p)
def p3T (p : Nat) : Nat := q3 tx (p2T tx p)
def p4T (p : Nat) : Nat := q4 tx (p3T tx p)
def enT (p : Nat) : Nat := q6 tx n (p4T tx p)
/-- the fault of a clause at p and its place; 0, if there is none but that its mark may be told already -/
def clA (full : Bool) (p : Nat) : Nat × Nat := if isLt (tx p) = false then (1, p) else if full then (4, p) else if (isLt (tx (p + 1)) && isLt (tx (p + 2))) = true then (2, p + 2) else (0, 0)
def clB (p : Nat) : Nat × Nat := if tx p = 48 then (1, p) else if fgF tx p ≠ 0 then (fgF tx p, p + fgN tx p) else (0, 0)
def clD (p : Nat) : Nat × Nat := if hasD tx p = true ∧ fgF tx (p + 1) ≠ 0 then (fgF tx (p + 1), p + 1 + fgN tx (p + 1)) else (0, 0)
def clC (p : Nat) : Nat × Nat := if tx p = 46 then (if isLt (tx (p + 1)) = false then (1, p + 1) else if fgF tx (p + 2) ≠ 0 then (fgF tx (p + 2), p + 2 + fgN tx (p + 2)) else (0, 0)) else (0, 0)
def clY (p : Nat) : Nat × Nat := if hasY tx n p = true then (if fgN tx (skp tx n p + 1) < 4 then (1, skp tx n p + 1 + fgN tx (skp tx n p + 1)) else if 1000 ≤ yrT tx n p ∧ yrT tx n p ≤ 2999 then (0, 0) else (3, skp tx n p + 1)) else (0, 0)
def clW (p : Nat) : Nat × Nat := if hasW tx n p = true then (if 49 ≤ tx (q5 tx n p + 1) ∧ tx (q5 tx n p + 1) ≤ 57 then (0, 0) else (1, q5 tx n p + 1)) else (0, 0)
def clE (p : Nat) : Nat × Nat := if tx p = 59 then (0, 0) else (1, p)
def clF (full : Bool) (p : Nat) : Nat × Nat :=
  if (clA tx full p).1 ≠ 0 then clA tx full p else if (clB tx (p1T tx p)).1 ≠ 0 then clB tx (p1T tx p) else if (clD tx (p2T tx p)).1 ≠ 0 then clD tx (p2T tx p) else if (clC tx (p3T tx p)).1 ≠ 0 then clC tx (p3T tx p) else if (clY tx n (p4T tx p)).1 ≠ 0 then clY tx n (p4T tx p) else if (clW tx n (p4T tx p)).1 ≠ 0 then clW tx n (p4T tx p) else clE tx (enT tx n p)
/-- the parts of a mark, as they are compared -/
def knT (p : Nat) : Nat → Int := fun i =>
  if i = 0 then (tx p - 96) * 32 + (if isLt (tx (p + 1)) then tx (p + 1) - 96 else 0)
  else if i = 1 then wholeD (dgs tx (p1T tx p)) (fgN tx (p1T tx p))
  else if i = 2 then (if hasD tx (p2T tx p) then filD (dgs tx (p2T tx p + 1)) (fgN tx (p2T tx p + 1)) else 0)
  else if i = 3 then (if tx (p3T tx p) = 46 then (tx (p3T tx p + 1) - 96) * 65536 + filD (dgs tx (p3T tx p + 2)) (fgN tx (p3T tx p + 2)) else 0)
  else (if hasY tx n (p4T tx p) then yrT tx n (p4T tx p) else -1)
end SCAN
/-- two marks have the same parts -/
def eqK (a b : Nat → Int) : Bool := decide (fst1 5 (fun i => a i != b i) = 5)
theorem eqK_iff {a b : Nat → Int} : eqK a b = true ↔ ∀ i, i < 5 → a i = b i := by
  unfold eqK
  rw [decide_eq_true_eq]
  constructor
  · intro h i hi
    have := fst1_lt (n := 5) (f := fun i => a i != b i) (i := i) (by omega)
    simpa using this
  · intro h
    exact fst1_none fun i hi => by simp [h i hi]
def tld (κ : Nat → Nat → Int) (m : Nat) (kn : Nat → Int) : Bool := decide (fst1 m (fun b => eqK (κ b) kn) < m)
/-- the whole text: fault, place, how many books then, where each begins -/
def rnT (tx : Nat → Int) (n : Nat) : Nat → Nat → Nat → (Nat → Nat → Int) → (Nat → Nat) → Nat × Nat × Nat × (Nat → Nat)
  | 0, _, m, _, ps => (0, 0, m, ps)
  | k + 1, p, m, κ, ps => if n ≤ p then (0, 0, m, ps) else if (clF tx n (decide (m = 24)) p).1 ≠ 0 then ((clF tx n (decide (m = 24)) p).1, (clF tx n (decide (m = 24)) p).2, m, ps) else if tld κ m (knT tx n p) = true then (5, enT tx n p, m, ps) else rnT tx n k (skp tx n (enT tx n p + 1)) (m + 1) (fun b => if b = m then knT tx n p else κ b) (fun b => if b = m then p else ps b)
section SCF
variable {C : Nat → Nat → Int} {tx : Nat → Int} {n p : Nat}
theorem fgN_le : fgN tx p ≤ 4 := fst1_le _ _
theorem fgN_at {j : Nat} (hj : j < fgN tx p) : 48 ≤ tx (p + j) ∧ tx (p + j) ≤ 57 := by
  have := fst1_lt (n := 4) (f := fun i => !isFg (tx (p + i))) hj
  exact isFg_t (by simpa using this)
theorem fgN_end (h : fgN tx p < 4) : ¬ isFg (tx (p + fgN tx p)) = true := by
  have := fst1_at (n := 4) (f := fun i => !isFg (tx (p + i))) h
  have h2 : (!isFg (tx (p + fgN tx p))) = true := this
  intro q
  rw [q] at h2
  cases h2
theorem fgN_lt (h : TxC C n tx) {j : Nat} (hj : j < fgN tx p) : p + j < n := (h.b _).2.2 (by have := fgN_at hj; omega)
theorem fgN_n (h : TxC C n tx) (hp : p ≤ n) : p + fgN tx p ≤ n := by
  rcases Nat.eq_zero_or_pos (fgN tx p) with c | c
  · omega
  · have := fgN_lt h (p := p) (j := fgN tx p - 1) (by omega)
    omega
theorem dgs_r {j : Nat} (hj : j < fgN tx p) : 0 ≤ dgs tx p j ∧ dgs tx p j ≤ 9 := by
  have := fgN_at hj
  unfold dgs; omega
theorem skp_ge : p ≤ skp tx n p := Nat.le_add_right _ _
theorem skp_le (hp : p ≤ n) : skp tx n p ≤ n := by
  have := fst1_le (n - p) (fun i => tx (p + i) != 32)
  unfold skp; omega
theorem skp_mid {i : Nat} (h : p + i < skp tx n p) : tx (p + i) = 32 := by
  have := fst1_lt (n := n - p) (f := fun i => tx (p + i) != 32) (i := i) (by unfold skp at h; omega)
  simpa using this
theorem skp_end (h : TxC C n tx) (hp : p ≤ n) : tx (skp tx n p) ≠ 32 := by
  have hl := fst1_le (n - p) (fun i => tx (p + i) != 32)
  rcases Nat.lt_or_ge (fst1 (n - p) (fun i => tx (p + i) != 32)) (n - p) with c | c
  · have := fst1_at c
    unfold skp
    simpa using this
  · have : skp tx n p = n := by unfold skp; omega
    rw [this, h.2.2.2 n (Nat.le_refl _)]; omega
theorem wh_r {d : Nat → Int} {k : Nat} (hk : k ≤ 4) (hd : ∀ j, j < k → 0 ≤ d j ∧ d j ≤ 9) : 0 ≤ wholeD d k ∧ wholeD d k ≤ 9999 := by
  have e : wholeD d k = wholeD (fun j => if j < k then d j else 0) k := by
    have : ∀ m, m ≤ k → wholeD d m = wholeD (fun j => if j < k then d j else 0) m := by
      intro m
      induction m with
      | zero => intro _; rfl
      | succ m ih =>
        intro hm
        show 10 * wholeD d m + d m = 10 * wholeD _ m + (if m < k then d m else 0)
        rw [ih (by omega), if_pos (by omega)]
    exact this k (Nat.le_refl _)
  rw [e]
  exact wholeD_r hk (fun j _ => by
    show 0 ≤ (if j < k then d j else 0) ∧ (if j < k then d j else 0) ≤ 9
    split
    · exact hd j (by assumption)
    · omega)
theorem wh_congr {d d' : Nat → Int} {k : Nat} (hd : ∀ j, j < k → d j = d' j) : wholeD d k = wholeD d' k := by
  induction k with
  | zero => rfl
  | succ k ih =>
    show 10 * wholeD d k + d k = 10 * wholeD d' k + d' k
    rw [ih (fun j hj => hd j (by omega)), hd k (by omega)]
theorem fil_congr {d d' : Nat → Int} {k : Nat} (hd : ∀ j, j < k → d j = d' j) : filD d k = filD d' k := by
  unfold filD
  rw [wh_congr hd]
theorem fil_r {d : Nat → Int} {k : Nat} (hk : k ≤ 4) (hd : ∀ j, j < k → 0 ≤ d j ∧ d j ≤ 9) : 0 ≤ filD d k ∧ filD d k ≤ 50000 := by
  have e : filD d k = filD (fun j => if j < k then d j else 0) k := fil_congr fun j hj => by rw [if_pos hj]
  rw [e]
  exact filD_r hk (fun j _ => by
    show 0 ≤ (if j < k then d j else 0) ∧ (if j < k then d j else 0) ≤ 9
    split
    · exact hd j (by assumption)
    · omega)
theorem fgL_len {k : Nat} : (fgL tx p k).length = k := by unfold fgL; simp
theorem fgL_succ {k : Nat} : fgL tx p (k + 1) = fgL tx p k ++ [tx (p + k)] := by
  unfold fgL
  rw [List.range_succ, List.map_append]
  rfl
end SCF
