/-! MEMORY, told purely: what kind each address has (kind, length), what each place holds, the next address. Kinds: 0 nothing; i + 1 the class of place i of vwCl; 100 int[]; 101 boolean[]; 102 Book[]. -/
abbrev Mem : Type := (Nat → Nat × Nat) × (Nat → Nat → Value) × Nat
def xset (M : Mem) (a k : Nat) (v : Value) : Mem := (M.1, fun b j => if b = a ∧ j = k then v else M.2.1 b j, M.2.2)
def xnew (M : Mem) (kd n : Nat) (dv : Nat → Value) : Mem := (fun b => if b = M.2.2 then (kd, n) else M.1 b, fun b j => if b = M.2.2 then dv j else M.2.1 b j, M.2.2 + 1)
/-- whole numbers as ints and as longs -/
def J (n : Int) : Int32 := Int32.ofInt n
def LJ (n : Int) : Int64 := Int64.ofInt n
theorem J0 : (0 : Int32) = J 0 := by decide
theorem LJ0 : (0 : Int64) = LJ 0 := by decide
/-- the receiver is of a class -/
def tS (M : Mem) (t a : Nat) (K : Prop) : Prop := (M.1 a).1 = t ∧ K
def gI (M : Mem) (t a k : Nat) (K : Int32 → Prop) : Prop := (M.1 a).1 = t ∧ ∃ v, M.2.1 a k = .int v ∧ K v
def gR (M : Mem) (t a k : Nat) (K : Nat → Prop) : Prop := (M.1 a).1 = t ∧ ∃ v, M.2.1 a k = .ref v ∧ K v
def pF (M : Mem) (t a k : Nat) (v : Value) (K : Mem → Prop) : Prop := (M.1 a).1 = t ∧ ∀ M', M' = xset M a k v → K M'
def aI (M : Mem) (a : Nat) (i : Int32) (K : Int32 → Prop) : Prop := (M.1 a).1 = 100 ∧ vp_in i (M.1 a).2 ∧ ∃ v, M.2.1 a i.toNatClampNeg = .int v ∧ K v
def aS (M : Mem) (a : Nat) (i v : Int32) (K : Mem → Prop) : Prop := (M.1 a).1 = 100 ∧ vp_in i (M.1 a).2 ∧ ∀ M', M' = xset M a i.toNatClampNeg (.int v) → K M'
def zI (M : Mem) (a : Nat) (i : Int32) (K : Int32 → Prop) : Prop := (M.1 a).1 = 101 ∧ vp_in i (M.1 a).2 ∧ ∃ v, M.2.1 a i.toNatClampNeg = .int v ∧ K v
def zS (M : Mem) (a : Nat) (i v : Int32) (K : Mem → Prop) : Prop := (M.1 a).1 = 101 ∧ vp_in i (M.1 a).2 ∧ ∀ M', M' = xset M a i.toNatClampNeg (narrow .boolean (.int v)) → K M'
def aR (M : Mem) (a : Nat) (i : Int32) (K : Nat → Prop) : Prop := (M.1 a).1 = 102 ∧ vp_in i (M.1 a).2 ∧ ∃ v, M.2.1 a i.toNatClampNeg = .ref v ∧ K v
def aP (M : Mem) (a : Nat) (i : Int32) (v : Nat) (K : Mem → Prop) : Prop := (M.1 a).1 = 102 ∧ vp_in i (M.1 a).2 ∧ (M.1 v).1 = 1 ∧ ∀ M', M' = xset M a i.toNatClampNeg (.ref v) → K M'
def aL (M : Mem) (kd a : Nat) (K : Int32 → Prop) : Prop := (M.1 a).1 = kd ∧ ∀ v, v = Int32.ofNat (M.1 a).2 → K v
def nO (M : Mem) (t N : Nat) (ty : Nat → FieldType) (K : Nat → Mem → Prop) : Prop := ∀ q M', q = M.2.2 → M' = xnew M t N (fun j => defaultValue (ty j)) → K q M'
def nA (M : Mem) (kd : Nat) (dv : Value) (i : Int32) (N : Nat) (K : Nat → Mem → Prop) : Prop := ¬ i < 0 ∧ i.toNatClampNeg ≤ N ∧ ∀ q M', q = M.2.2 → M' = xnew M kd i.toNatClampNeg (fun _ => dv) → K q M'
/-- a branch -/
def xbr (c A B : Prop) : Prop := (c → A) ∧ (¬ c → B)
theorem xbr_t {c A B : Prop} (h : xbr c A B) (hc : c) : A := h.1 hc
theorem xbr_f {c A B : Prop} (h : xbr c A B) (hc : ¬ c) : B := h.2 hc
/-- the script's int at a place -/
def sI (xs : Nat → Int32) (Ln : Nat) (i : Int32) (K : Int32 → Prop) : Prop := vp_in i Ln ∧ ∀ v, v = xs i.toNatClampNeg → K v
def isB (v : Int32) : Prop := narrow .boolean (.int v) = .int v
/-! loops -/
def lpn {S : Type} (body : (S → Prop) → S → Prop) : Nat → S → Prop
  | 0 => fun _ => False
  | n + 1 => fun s => body (lpn body n) s
def lp {S : Type} (body : (S → Prop) → S → Prop) (s : S) : Prop := ∃ n, lpn body n s
/-- what a loop's body keeps up, the loop does -/
theorem lp_sound {S : Type} {body : (S → Prop) → S → Prop} {T : S → Prop} (h : ∀ kc : S → Prop, (∀ s, kc s → T s) → ∀ s, body kc s → T s) : ∀ s, lp body s → T s := by
  intro s ⟨n, hn⟩
  induction n generalizing s with
  | zero => exact hn.elim
  | succ n ih => exact h _ ih s hn
/-- an invariant and a measure that falls -/
theorem lp_ind {S : Type} {body : (S → Prop) → S → Prop} (I : S → Prop) (μ : S → Nat) (h : ∀ (kc : S → Prop) (s : S), I s → (∀ s', I s' → μ s' < μ s → kc s') → body kc s) : ∀ s, I s → lp body s := by
  have key : ∀ n s, I s → μ s < n → lpn body n s := by
    intro n
    induction n with
    | zero => intro s _ h; exact absurd h (Nat.not_lt_zero _)
    | succ n ih => exact fun s hI hm => h _ s hI fun s' hI' hm' => ih s' hI' (Nat.lt_of_lt_of_le hm' (Nat.le_of_lt_succ hm))
  exact fun s hI => ⟨μ s + 1, key _ s hI (Nat.lt_succ_self _)⟩
