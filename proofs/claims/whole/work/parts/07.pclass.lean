/-! the methods, told purely (by program, out of the bytecode) -/
def PX1_init (a0 : Nat) (x1 : Int32) (M : Mem) (K : Mem → Prop) : Prop :=
tS M 2 a0 (
  nA M 100 (defaultValue .int) (if (J 0) < x1 then x1 else (J 0)) 600 fun q1 M2 =>
  pF M2 2 a0 0 (.ref q1) fun M3 =>
  pF M3 2 a0 1 (.int (J 0)) fun M4 =>
  K M4)
theorem tX1_init {a0 : Nat} {x1 : Int32} {M : Mem} {K : Mem → Prop} (h : PX1_init a0 x1 M K) : (M.1 a0).1 = 2 := h.1
def PX0_init (a0 : Nat) (M : Mem) (K : Mem → Prop) : Prop :=
tS M 1 a0 (
  nO M 2 2 tyX1 fun q1 M2 =>
  PX1_init q1 (J 23) M2 fun M4 =>
  pF M4 1 a0 0 (.ref q1) fun M5 =>
  K M5)
theorem tX0_init {a0 : Nat} {M : Mem} {K : Mem → Prop} (h : PX0_init a0 M K) : (M.1 a0).1 = 1 := h.1
def PX1_clear (a0 : Nat) (M : Mem) (K : Mem → Prop) : Prop :=
tS M 2 a0 (
  pF M 2 a0 1 (.int (J 0)) fun M1 =>
  K M1)
theorem tX1_clear {a0 : Nat} {M : Mem} {K : Mem → Prop} (h : PX1_clear a0 M K) : (M.1 a0).1 = 2 := h.1
def PX0_clear (a0 : Nat) (M : Mem) (K : Mem → Prop) : Prop :=
tS M 1 a0 (
  gR M 1 a0 0 fun q1 =>
  PX1_clear q1 M fun M3 =>
  pF M3 1 a0 1 (.int (J 0)) fun M4 =>
  pF M4 1 a0 2 (.int (J 0)) fun M5 =>
  pF M5 1 a0 3 (.int (J 0)) fun M6 =>
  pF M6 1 a0 4 (.int (J 0)) fun M7 =>
  pF M7 1 a0 5 (.int (J 0)) fun M8 =>
  pF M8 1 a0 6 (.int (J 0)) fun M9 =>
  pF M9 1 a0 7 (.int (J 0)) fun M10 =>
  pF M10 1 a0 8 (.int (J 0)) fun M11 =>
  pF M11 1 a0 9 (.int (J 0)) fun M12 =>
  pF M12 1 a0 10 (.int (J (-1))) fun M13 =>
  pF M13 1 a0 11 (.int (J 2)) fun M14 =>
  K M14)
theorem tX0_clear {a0 : Nat} {M : Mem} {K : Mem → Prop} (h : PX0_clear a0 M K) : (M.1 a0).1 = 1 := h.1
def PX0_key (a0 : Nat) (x1 : Int32) (x2 : Int32) (M : Mem) (K : Int32 → Prop) : Prop :=
tS M 1 a0 (
  xbr (x1 = (J 0)) (
    gI M 1 a0 1 fun v2 =>
    xbr (x2 = (J 3)) (
      K ((v2 * (J 32)) + (J 0))) (
      gI M 1 a0 2 fun v4 =>
      K ((v2 * (J 32)) + v4))) (
  xbr (x1 = (J 1)) (
    xbr (x2 = (J 4)) (
      gI M 1 a0 4 fun v8 =>
      K v8) (
      gI M 1 a0 3 fun v7 =>
      K v7)) (
  xbr (x1 = (J 2)) (
    xbr (x2 = (J 1)) (
      gI M 1 a0 5 fun v12 =>
      K v12) (
      gI M 1 a0 6 fun v11 =>
      K v11)) (
  xbr (x1 = (J 3)) (
    gI M 1 a0 7 fun v14 =>
    xbr (x2 = (J 2)) (
      gI M 1 a0 8 fun v17 =>
      K ((v14 * (J 65536)) + v17)) (
      gI M 1 a0 9 fun v16 =>
      K ((v14 * (J 65536)) + v16))) (
  gI M 1 a0 10 fun v18 =>
  K v18)))))
theorem tX0_key {a0 : Nat} {x1 : Int32} {x2 : Int32} {M : Mem} {K : Int32 → Prop} (h : PX0_key a0 x1 x2 M K) : (M.1 a0).1 = 1 := h.1
def CX0_compareBy_2 (K : Int32 → Prop) (M : Mem) (u0 : Nat) (u1 : Nat) (u2 : Int32) (kc2 : Int32 → Prop) (x3 : Int32) : Prop :=
  xbr ((J 5) ≤ x3) (
    K (J 0)) (
    PX0_key u0 x3 u2 M fun r2 =>
    PX0_key u1 x3 u2 M fun r4 =>
    xbr (r2 = r4) (
      kc2 (x3 + (J 1))) (
      xbr (r4 ≤ r2) (
        K (J 1)) (
        K (J (-1)))))
def BX0_compareBy_2 (K : Int32 → Prop) (M : Mem) (u0 : Nat) (u1 : Nat) (u2 : Int32) (kc2 : Int32 → Prop) (s : Int32) : Prop := CX0_compareBy_2 K M u0 u1 u2 kc2 s
def PX0_compareBy (a0 : Nat) (a1 : Nat) (x2 : Int32) (M : Mem) (K : Int32 → Prop) : Prop :=
tS M 1 a0 (
  lp (BX0_compareBy_2 K M a0 a1 x2) (J 0))
theorem tX0_compareBy {a0 : Nat} {a1 : Nat} {x2 : Int32} {M : Mem} {K : Int32 → Prop} (h : PX0_compareBy a0 a1 x2 M K) : (M.1 a0).1 = 1 := h.1
def PX1_size (a0 : Nat) (M : Mem) (K : Int32 → Prop) : Prop :=
tS M 2 a0 (
  gI M 2 a0 1 fun v1 =>
  K v1)
theorem tX1_size {a0 : Nat} {M : Mem} {K : Int32 → Prop} (h : PX1_size a0 M K) : (M.1 a0).1 = 2 := h.1
def PX1_get (a0 : Nat) (x1 : Int32) (M : Mem) (K : Int32 → Prop) : Prop :=
tS M 2 a0 (
  xbr (x1 < (J 0)) (
    K (J (-1))) (
    gI M 2 a0 1 fun v2 =>
    xbr (v2 ≤ x1) (
      K (J (-1))) (
      gR M 2 a0 0 fun q4 =>
      aL M 100 q4 fun v5 =>
      xbr (v5 ≤ x1) (
        K (J (-1))) (
        gR M 2 a0 0 fun q7 =>
        aI M q7 x1 fun v8 =>
        K v8))))
theorem tX1_get {a0 : Nat} {x1 : Int32} {M : Mem} {K : Int32 → Prop} (h : PX1_get a0 x1 M K) : (M.1 a0).1 = 2 := h.1
def PX1_append (a0 : Nat) (x1 : Int32) (M : Mem) (K : Mem → Prop) : Prop :=
tS M 2 a0 (
  gI M 2 a0 1 fun v1 =>
  xbr (v1 < (J 0)) (
    K M) (
    gI M 2 a0 1 fun v3 =>
    gR M 2 a0 0 fun q4 =>
    aL M 100 q4 fun v5 =>
    xbr (v5 ≤ v3) (
      K M) (
      gR M 2 a0 0 fun q7 =>
      gI M 2 a0 1 fun v8 =>
      aS M q7 v8 x1 fun M9 =>
      gI M9 2 a0 1 fun v10 =>
      pF M9 2 a0 1 (.int (v10 + (J 1))) fun M11 =>
      K M11)))
theorem tX1_append {a0 : Nat} {x1 : Int32} {M : Mem} {K : Mem → Prop} (h : PX1_append a0 x1 M K) : (M.1 a0).1 = 2 := h.1
def CX1_beginsWith_12 (K : Int32 → Prop) (M : Mem) (u0 : Nat) (u1 : Nat) (u2 : Int32) (kc12 : Int32 → Prop) (x3 : Int32) : Prop :=
  xbr (u2 ≤ x3) (
    isB (J 1) ∧ K (J 1)) (
    PX1_get u0 x3 M fun r4 =>
    PX1_get u1 x3 M fun r6 =>
    xbr (r4 = r6) (
      kc12 (x3 + (J 1))) (
      isB (J 0) ∧ K (J 0)))
def BX1_beginsWith_12 (K : Int32 → Prop) (M : Mem) (u0 : Nat) (u1 : Nat) (u2 : Int32) (kc12 : Int32 → Prop) (s : Int32) : Prop := CX1_beginsWith_12 K M u0 u1 u2 kc12 s
def PX1_beginsWith (a0 : Nat) (a1 : Nat) (x2 : Int32) (M : Mem) (K : Int32 → Prop) : Prop :=
tS M 2 a0 (
  gI M 2 a0 1 fun v1 =>
  xbr (x2 ≤ v1) (
    lp (BX1_beginsWith_12 K M a0 a1 x2) (J 0)) (
    isB (J 0) ∧ K (J 0)))
theorem tX1_beginsWith {a0 : Nat} {a1 : Nat} {x2 : Int32} {M : Mem} {K : Int32 → Prop} (h : PX1_beginsWith a0 a1 x2 M K) : (M.1 a0).1 = 2 := h.1
def CX2_init_26 (K : Mem → Prop) (u0 : Nat) (kc26 : (Mem × Nat × Nat × Int32) → Prop) (M : Mem) (ck : Nat) (cn : Nat) (x1 : Int32) : Prop :=
  gR M 3 u0 0 fun q9 =>
  aL M 102 q9 fun v10 =>
  xbr (v10 ≤ x1) (
    pF M 3 u0 2 (.int (J 0)) fun M12 =>
    pF M12 3 u0 3 (.int (J 0)) fun M13 =>
    (ck ≤ 100 ∧ cn ≤ 20000) ∧
    K M13) (
    gR M 3 u0 0 fun q14 =>
    (ck + 1 ≤ 100 ∧ cn + 12 ≤ 20000) ∧
    nO M 1 12 tyX0 fun q15 M16 =>
    (ck + 1 + 2 ≤ 100 ∧ cn + 12 + 652 ≤ 20000) ∧
    PX0_init q15 M16 fun M18 =>
    aP M18 q14 x1 q15 fun M19 =>
    kc26 (M19, ck + 1 + 2, cn + 12 + 652, (x1 + (J 1))))
def BX2_init_26 (K : Mem → Prop) (u0 : Nat) (kc26 : (Mem × Nat × Nat × Int32) → Prop) (s : (Mem × Nat × Nat × Int32)) : Prop := CX2_init_26 K u0 kc26 s.1 s.2.1 s.2.2.1 s.2.2.2
def PX2_init (a0 : Nat) (M : Mem) (K : Mem → Prop) : Prop :=
tS M 3 a0 (
  nA M 102 Value.null (J 24) 24 fun q1 M2 =>
  pF M2 3 a0 0 (.ref q1) fun M3 =>
  nO M3 1 12 tyX0 fun q4 M5 =>
  PX0_init q4 M5 fun M7 =>
  pF M7 3 a0 1 (.ref q4) fun M8 =>
  lp (BX2_init_26 K a0) (M8, 0 + 1 + 1 + 2, 0 + 24 + 12 + 652, (J 0)))
theorem tX2_init {a0 : Nat} {M : Mem} {K : Mem → Prop} (h : PX2_init a0 M K) : (M.1 a0).1 = 3 := h.1
def PX2_size (a0 : Nat) (M : Mem) (K : Int32 → Prop) : Prop :=
tS M 3 a0 (
  gI M 3 a0 2 fun v1 =>
  K v1)
theorem tX2_size {a0 : Nat} {M : Mem} {K : Int32 → Prop} (h : PX2_size a0 M K) : (M.1 a0).1 = 3 := h.1
def PX2_has (a0 : Nat) (x1 : Int32) (M : Mem) (K : Int32 → Prop) : Prop :=
tS M 3 a0 (
  xbr (x1 < (J 0)) (
    isB (J 0) ∧ K (J 0)) (
    gI M 3 a0 2 fun v2 =>
    xbr (v2 ≤ x1) (
      isB (J 0) ∧ K (J 0)) (
      isB (J 1) ∧ K (J 1))))
theorem tX2_has {a0 : Nat} {x1 : Int32} {M : Mem} {K : Int32 → Prop} (h : PX2_has a0 x1 M K) : (M.1 a0).1 = 3 := h.1
def PX2_of (a0 : Nat) (x1 : Int32) (M : Mem) (K : Nat → Prop) : Prop :=
tS M 3 a0 (
  xbr (x1 < (J 0)) (
    gR M 3 a0 1 fun q2 =>
    K q2) (
    gR M 3 a0 0 fun q3 =>
    aL M 102 q3 fun v4 =>
    xbr (x1 < v4) (
      gR M 3 a0 0 fun q6 =>
      aR M q6 x1 fun q7 =>
      K q7) (
      gR M 3 a0 1 fun q8 =>
      K q8)))
theorem tX2_of {a0 : Nat} {x1 : Int32} {M : Mem} {K : Nat → Prop} (h : PX2_of a0 x1 M K) : (M.1 a0).1 = 3 := h.1
def PX2_hasSpace (a0 : Nat) (M : Mem) (K : Int32 → Prop) : Prop :=
tS M 3 a0 (
  gI M 3 a0 3 fun v1 =>
  xbr ((J 24) ≤ v1) (
    isB (J 0) ∧ K (J 0)) (
    isB (J 1) ∧ K (J 1)))
theorem tX2_hasSpace {a0 : Nat} {M : Mem} {K : Int32 → Prop} (h : PX2_hasSpace a0 M K) : (M.1 a0).1 = 3 := h.1
def PX2_draft (a0 : Nat) (M : Mem) (K : Nat → Prop) : Prop :=
tS M 3 a0 (
  gI M 3 a0 3 fun v1 =>
  PX2_of a0 v1 M fun q2 =>
  K q2)
theorem tX2_draft {a0 : Nat} {M : Mem} {K : Nat → Prop} (h : PX2_draft a0 M K) : (M.1 a0).1 = 3 := h.1
def CX2_hasMarkOfDraft_2 (K : Int32 → Prop) (M : Mem) (u0 : Nat) (kc2 : Int32 → Prop) (x1 : Int32) : Prop :=
  gI M 3 u0 3 fun v1 =>
  xbr (v1 ≤ x1) (
    isB (J 0) ∧ K (J 0)) (
    PX2_of u0 x1 M fun q3 =>
    PX2_draft u0 M fun q5 =>
    PX0_compareBy q3 q5 (J 0) M fun r7 =>
    xbr (r7 = (J 0)) (
      isB (J 1) ∧ K (J 1)) (
      kc2 (x1 + (J 1))))
def BX2_hasMarkOfDraft_2 (K : Int32 → Prop) (M : Mem) (u0 : Nat) (kc2 : Int32 → Prop) (s : Int32) : Prop := CX2_hasMarkOfDraft_2 K M u0 kc2 s
def PX2_hasMarkOfDraft (a0 : Nat) (M : Mem) (K : Int32 → Prop) : Prop :=
tS M 3 a0 (
  lp (BX2_hasMarkOfDraft_2 K M a0) (J 0))
theorem tX2_hasMarkOfDraft {a0 : Nat} {M : Mem} {K : Int32 → Prop} (h : PX2_hasMarkOfDraft a0 M K) : (M.1 a0).1 = 3 := h.1
def PX2_endDraft (a0 : Nat) (M : Mem) (K : Mem → Prop) : Prop :=
tS M 3 a0 (
  gI M 3 a0 3 fun v1 =>
  pF M 3 a0 3 (.int (v1 + (J 1))) fun M2 =>
  K M2)
theorem tX2_endDraft {a0 : Nat} {M : Mem} {K : Mem → Prop} (h : PX2_endDraft a0 M K) : (M.1 a0).1 = 3 := h.1
def PX2_acceptDrafts (a0 : Nat) (M : Mem) (K : Mem → Prop) : Prop :=
tS M 3 a0 (
  gI M 3 a0 3 fun v1 =>
  pF M 3 a0 2 (.int v1) fun M2 =>
  K M2)
theorem tX2_acceptDrafts {a0 : Nat} {M : Mem} {K : Mem → Prop} (h : PX2_acceptDrafts a0 M K) : (M.1 a0).1 = 3 := h.1
def PX2_dropDrafts (a0 : Nat) (M : Mem) (K : Mem → Prop) : Prop :=
tS M 3 a0 (
  gI M 3 a0 2 fun v1 =>
  pF M 3 a0 3 (.int v1) fun M2 =>
  K M2)
theorem tX2_dropDrafts {a0 : Nat} {M : Mem} {K : Mem → Prop} (h : PX2_dropDrafts a0 M K) : (M.1 a0).1 = 3 := h.1
def PX2_isAhead (a0 : Nat) (x1 : Int32) (x2 : Int32) (x3 : Int32) (M : Mem) (K : Int32 → Prop) : Prop :=
tS M 3 a0 (
  PX2_of a0 x1 M fun q1 =>
  PX2_of a0 x2 M fun q3 =>
  PX0_compareBy q1 q3 x3 M fun r5 =>
  xbr (r5 = (J 0)) (
    xbr (x2 ≤ x1) (
      isB (J 0) ∧ K (J 0)) (
      isB (J 1) ∧ K (J 1))) (
    xbr ((J 0) ≤ r5) (
      isB (J 0) ∧ K (J 0)) (
      isB (J 1) ∧ K (J 1))))
theorem tX2_isAhead {a0 : Nat} {x1 : Int32} {x2 : Int32} {x3 : Int32} {M : Mem} {K : Int32 → Prop} (h : PX2_isAhead a0 x1 x2 x3 M K) : (M.1 a0).1 = 3 := h.1
def PX10_write (a0 : Nat) (x1 : Int32) (x2 : Int32) (M : Mem) (K : Mem → Prop) : Prop :=
  xbr (x1 < (J 0)) (
    K M) (
    aL M 100 a0 fun v2 =>
    xbr (v2 ≤ x1) (
      K M) (
      aS M a0 x1 x2 fun M4 =>
      K M4))
def JX3_init_34 (K : Mem → Prop) (kc13 : (Mem × Int32) → Prop) (M : Mem) (u0 : Nat) (j1 : Int32) (s0 : Int32) (s1 : Int32) (s2 : Nat) : Prop :=
  PX10_write s2 s1 s0 M fun M8 =>
  kc13 (M8, (j1 + (J 1)))
def CX3_init_13 (K : Mem → Prop) (u0 : Nat) (kc13 : (Mem × Int32) → Prop) (M : Mem) (x1 : Int32) : Prop :=
  xbr ((J 5) ≤ x1) (
    K M) (
    gR M 4 u0 0 fun q5 =>
    xbr (x1 = (J 0)) (
      JX3_init_34 K kc13 M u0 x1 (J 60) x1 q5) (
      JX3_init_34 K kc13 M u0 x1 (J 10) x1 q5))
def BX3_init_13 (K : Mem → Prop) (u0 : Nat) (kc13 : (Mem × Int32) → Prop) (s : (Mem × Int32)) : Prop := CX3_init_13 K u0 kc13 s.1 s.2
def PX3_init (a0 : Nat) (M : Mem) (K : Mem → Prop) : Prop :=
tS M 4 a0 (
  nA M 100 (defaultValue .int) (J 5) 5 fun q1 M2 =>
  pF M2 4 a0 0 (.ref q1) fun M3 =>
  lp (BX3_init_13 K a0) (M3, (J 0)))
theorem tX3_init {a0 : Nat} {M : Mem} {K : Mem → Prop} (h : PX3_init a0 M K) : (M.1 a0).1 = 4 := h.1
def PX10_entry (a0 : Nat) (x1 : Int32) (M : Mem) (K : Int32 → Prop) : Prop :=
  xbr (x1 < (J 0)) (
    K (J (-1))) (
    aL M 100 a0 fun v2 =>
    xbr (v2 ≤ x1) (
      K (J (-1))) (
      aI M a0 x1 fun v4 =>
      K v4))
def PX3_weight (a0 : Nat) (x1 : Int32) (M : Mem) (K : Int32 → Prop) : Prop :=
tS M 4 a0 (
  gR M 4 a0 0 fun q1 =>
  PX10_entry q1 x1 M fun r2 =>
  K r2)
theorem tX3_weight {a0 : Nat} {x1 : Int32} {M : Mem} {K : Int32 → Prop} (h : PX3_weight a0 x1 M K) : (M.1 a0).1 = 4 := h.1
def PX3_weigh (a0 : Nat) (x1 : Int32) (x2 : Int32) (M : Mem) (K : Mem → Prop) : Prop :=
tS M 4 a0 (
  gR M 4 a0 0 fun q1 =>
  PX10_write q1 x1 x2 M fun M3 =>
  K M3)
theorem tX3_weigh {a0 : Nat} {x1 : Int32} {x2 : Int32} {M : Mem} {K : Mem → Prop} (h : PX3_weigh a0 x1 x2 M K) : (M.1 a0).1 = 4 := h.1
def CX3_total_4 (K : Int32 → Prop) (M : Mem) (u0 : Nat) (kc4 : (Int32 × Int32) → Prop) (x1 : Int32) (x2 : Int32) : Prop :=
  xbr ((J 5) ≤ x2) (
    K x1) (
    PX3_weight u0 x2 M fun r2 =>
    ∃ y4 : Int32, y4 = (x1 + r2) ∧
    kc4 (y4, (x2 + (J 1))))
def BX3_total_4 (K : Int32 → Prop) (M : Mem) (u0 : Nat) (kc4 : (Int32 × Int32) → Prop) (s : (Int32 × Int32)) : Prop := CX3_total_4 K M u0 kc4 s.1 s.2
def PX3_total (a0 : Nat) (M : Mem) (K : Int32 → Prop) : Prop :=
tS M 4 a0 (
  lp (BX3_total_4 K M a0) ((J 0), (J 0)))
theorem tX3_total {a0 : Nat} {M : Mem} {K : Int32 → Prop} (h : PX3_total a0 M K) : (M.1 a0).1 = 4 := h.1
def CX3_readingOf_4 (K : Int32 → Prop) (M : Mem) (u0 : Nat) (u1 : Int32) (kc4 : (Int32 × Int32) → Prop) (x2 : Int32) (x3 : Int32) : Prop :=
  xbr ((J 5) ≤ x3) (
    K (J 0)) (
    PX3_weight u0 x3 M fun r2 =>
    ∃ y4 : Int32, y4 = (x2 + r2) ∧
    xbr (y4 ≤ u1) (
      kc4 (y4, (x3 + (J 1)))) (
      K x3))
def BX3_readingOf_4 (K : Int32 → Prop) (M : Mem) (u0 : Nat) (u1 : Int32) (kc4 : (Int32 × Int32) → Prop) (s : (Int32 × Int32)) : Prop := CX3_readingOf_4 K M u0 u1 kc4 s.1 s.2
def PX3_readingOf (a0 : Nat) (x1 : Int32) (M : Mem) (K : Int32 → Prop) : Prop :=
tS M 4 a0 (
  lp (BX3_readingOf_4 K M a0 x1) ((J 0), (J 0)))
theorem tX3_readingOf {a0 : Nat} {x1 : Int32} {M : Mem} {K : Int32 → Prop} (h : PX3_readingOf a0 x1 M K) : (M.1 a0).1 = 4 := h.1
def PX6_bookAt (a0 : Nat) (x1 : Int32) (M : Mem) (K : Int32 → Prop) : Prop :=
tS M 7 a0 (
  xbr (x1 < (J 0)) (
    K (J (-1))) (
    gI M 7 a0 2 fun v2 =>
    xbr (v2 ≤ x1) (
      K (J (-1))) (
      gR M 7 a0 0 fun q4 =>
      aL M 100 q4 fun v5 =>
      xbr (v5 ≤ x1) (
        K (J (-1))) (
        gR M 7 a0 0 fun q7 =>
        aI M q7 x1 fun v8 =>
        K v8))))
theorem tX6_bookAt {a0 : Nat} {x1 : Int32} {M : Mem} {K : Int32 → Prop} (h : PX6_bookAt a0 x1 M K) : (M.1 a0).1 = 7 := h.1
def CX6_spotFor_3 (K : Int32 → Prop) (M : Mem) (u0 : Nat) (u1 : Nat) (u2 : Int32) (u3 : Int32) (kc3 : Int32 → Prop) (x4 : Int32) : Prop :=
  gI M 7 u0 2 fun v1 =>
  xbr (v1 ≤ x4) (
    gI M 7 u0 2 fun v3 =>
    K v3) (
    PX6_bookAt u0 x4 M fun r4 =>
    PX2_isAhead u1 r4 u2 u3 M fun r6 =>
    xbr (r6 = (J 0)) (
      K x4) (
      kc3 (x4 + (J 1))))
def BX6_spotFor_3 (K : Int32 → Prop) (M : Mem) (u0 : Nat) (u1 : Nat) (u2 : Int32) (u3 : Int32) (kc3 : Int32 → Prop) (s : Int32) : Prop := CX6_spotFor_3 K M u0 u1 u2 u3 kc3 s
def PX6_spotFor (a0 : Nat) (a1 : Nat) (x2 : Int32) (x3 : Int32) (M : Mem) (K : Int32 → Prop) : Prop :=
tS M 7 a0 (
  lp (BX6_spotFor_3 K M a0 a1 x2 x3) (J 0))
theorem tX6_spotFor {a0 : Nat} {a1 : Nat} {x2 : Int32} {x3 : Int32} {M : Mem} {K : Int32 → Prop} (h : PX6_spotFor a0 a1 x2 x3 M K) : (M.1 a0).1 = 7 := h.1
def PX6_shelfOf (a0 : Nat) (x1 : Int32) (M : Mem) (K : Int32 → Prop) : Prop :=
tS M 7 a0 (
  xbr (x1 < (J 0)) (
    K (J (-1))) (
    gR M 7 a0 1 fun q2 =>
    aL M 100 q2 fun v3 =>
    xbr (v3 ≤ x1) (
      K (J (-1))) (
      gR M 7 a0 1 fun q5 =>
      aI M q5 x1 fun v6 =>
      K v6)))
theorem tX6_shelfOf {a0 : Nat} {x1 : Int32} {M : Mem} {K : Int32 → Prop} (h : PX6_shelfOf a0 x1 M K) : (M.1 a0).1 = 7 := h.1
def PX6_shelfAtSpot (a0 : Nat) (x1 : Int32) (M : Mem) (K : Int32 → Prop) : Prop :=
tS M 7 a0 (
  gI M 7 a0 2 fun v1 =>
  xbr (v1 = (J 0)) (
    K (J 0)) (
    gI M 7 a0 2 fun v3 =>
    PX6_bookAt a0 (if (v3 - (J 1)) < x1 then (v3 - (J 1)) else x1) M fun r4 =>
    PX6_shelfOf a0 r4 M fun r6 =>
    K r6))
theorem tX6_shelfAtSpot {a0 : Nat} {x1 : Int32} {M : Mem} {K : Int32 → Prop} (h : PX6_shelfAtSpot a0 x1 M K) : (M.1 a0).1 = 7 := h.1
def CX3_chance_19 (K : Int32 → Prop) (M : Mem) (u0 : Nat) (u1 : Nat) (u2 : Nat) (u3 : Int32) (u4 : Int32) (u5 : Int32) (kc19 : (Int32 × Int32) → Prop) (x6 : Int32) (x7 : Int32) : Prop :=
  xbr ((J 5) ≤ x7) (
    ¬ u5 = 0 ∧
    K ((x6 * (J 1000000)) / u5)) (
    PX6_spotFor u1 u2 u3 x7 M fun r5 =>
    PX6_shelfAtSpot u1 r5 M fun r7 =>
    xbr (r7 = u4) (
      PX3_weight u0 x7 M fun r10 =>
      ∃ y12 : Int32, y12 = (x6 + r10) ∧
      kc19 (y12, (x7 + (J 1)))) (
      kc19 (x6, (x7 + (J 1)))))
def BX3_chance_19 (K : Int32 → Prop) (M : Mem) (u0 : Nat) (u1 : Nat) (u2 : Nat) (u3 : Int32) (u4 : Int32) (u5 : Int32) (kc19 : (Int32 × Int32) → Prop) (s : (Int32 × Int32)) : Prop := CX3_chance_19 K M u0 u1 u2 u3 u4 u5 kc19 s.1 s.2
def PX3_chance (a0 : Nat) (a1 : Nat) (a2 : Nat) (x3 : Int32) (x4 : Int32) (M : Mem) (K : Int32 → Prop) : Prop :=
tS M 4 a0 (
  PX3_total a0 M fun r1 =>
  xbr ((J 0) < r1) (
    lp (BX3_chance_19 K M a0 a1 a2 x3 x4 r1) ((J 0), (J 0))) (
    K (J 0)))
theorem tX3_chance {a0 : Nat} {a1 : Nat} {a2 : Nat} {x3 : Int32} {x4 : Int32} {M : Mem} {K : Int32 → Prop} (h : PX3_chance a0 a1 a2 x3 x4 M K) : (M.1 a0).1 = 4 := h.1
def CX6_clear_7 (K : Mem → Prop) (u0 : Nat) (kc7 : (Mem × Int32) → Prop) (M : Mem) (x1 : Int32) : Prop :=
  xbr ((J 24) ≤ x1) (
    K M) (
    gR M 7 u0 1 fun q3 =>
    PX10_write q3 x1 (J (-1)) M fun M5 =>
    kc7 (M5, (x1 + (J 1))))
def BX6_clear_7 (K : Mem → Prop) (u0 : Nat) (kc7 : (Mem × Int32) → Prop) (s : (Mem × Int32)) : Prop := CX6_clear_7 K u0 kc7 s.1 s.2
def PX6_clear (a0 : Nat) (M : Mem) (K : Mem → Prop) : Prop :=
tS M 7 a0 (
  pF M 7 a0 2 (.int (J 0)) fun M1 =>
  lp (BX6_clear_7 K a0) (M1, (J 0)))
theorem tX6_clear {a0 : Nat} {M : Mem} {K : Mem → Prop} (h : PX6_clear a0 M K) : (M.1 a0).1 = 7 := h.1
def PX6_init (a0 : Nat) (M : Mem) (K : Mem → Prop) : Prop :=
tS M 7 a0 (
  nA M 100 (defaultValue .int) (J 24) 24 fun q1 M2 =>
  pF M2 7 a0 0 (.ref q1) fun M3 =>
  nA M3 100 (defaultValue .int) (J 24) 24 fun q4 M5 =>
  pF M5 7 a0 1 (.ref q4) fun M6 =>
  PX6_clear a0 M6 fun M8 =>
  K M8)
theorem tX6_init {a0 : Nat} {M : Mem} {K : Mem → Prop} (h : PX6_init a0 M K) : (M.1 a0).1 = 7 := h.1
def PX4_init (a0 : Nat) (M : Mem) (K : Mem → Prop) : Prop :=
tS M 5 a0 (
  nO M 7 3 tyX6 fun q1 M2 =>
  PX6_init q1 M2 fun M4 =>
  pF M4 5 a0 0 (.ref q1) fun M5 =>
  K M5)
theorem tX4_init {a0 : Nat} {M : Mem} {K : Mem → Prop} (h : PX4_init a0 M K) : (M.1 a0).1 = 5 := h.1
def CX6_copyFrom_10 (K : Mem → Prop) (u0 : Nat) (u1 : Nat) (kc10 : (Mem × Int32) → Prop) (M : Mem) (x2 : Int32) : Prop :=
  xbr ((J 24) ≤ x2) (
    K M) (
    gR M 7 u0 0 fun q4 =>
    gR M 7 u1 0 fun q5 =>
    PX10_entry q5 x2 M fun r6 =>
    PX10_write q4 x2 r6 M fun M9 =>
    gR M9 7 u0 1 fun q10 =>
    gR M9 7 u1 1 fun q11 =>
    PX10_entry q11 x2 M9 fun r12 =>
    PX10_write q10 x2 r12 M9 fun M15 =>
    kc10 (M15, (x2 + (J 1))))
def BX6_copyFrom_10 (K : Mem → Prop) (u0 : Nat) (u1 : Nat) (kc10 : (Mem × Int32) → Prop) (s : (Mem × Int32)) : Prop := CX6_copyFrom_10 K u0 u1 kc10 s.1 s.2
def PX6_copyFrom (a0 : Nat) (a1 : Nat) (M : Mem) (K : Mem → Prop) : Prop :=
tS M 7 a0 (
  gI M 7 a1 2 fun v1 =>
  pF M 7 a0 2 (.int v1) fun M2 =>
  lp (BX6_copyFrom_10 K a0 a1) (M2, (J 0)))
theorem tX6_copyFrom {a0 : Nat} {a1 : Nat} {M : Mem} {K : Mem → Prop} (h : PX6_copyFrom a0 a1 M K) : (M.1 a0).1 = 7 := h.1
def PX4_store (a0 : Nat) (a1 : Nat) (x2 : Int32) (x3 : Int32) (M : Mem) (K : Mem → Prop) : Prop :=
tS M 5 a0 (
  gR M 5 a0 0 fun q1 =>
  PX6_copyFrom q1 a1 M fun M3 =>
  pF M3 5 a0 1 (.int x2) fun M4 =>
  pF M4 5 a0 2 (.int x3) fun M5 =>
  pF M5 5 a0 3 (.int (J 1)) fun M6 =>
  K M6)
theorem tX4_store {a0 : Nat} {a1 : Nat} {x2 : Int32} {x3 : Int32} {M : Mem} {K : Mem → Prop} (h : PX4_store a0 a1 x2 x3 M K) : (M.1 a0).1 = 5 := h.1
def PX5_init (a0 : Nat) (a1 : Nat) (a2 : Nat) (M : Mem) (K : Mem → Prop) : Prop :=
tS M 6 a0 (
  pF M 6 a0 0 (.ref a1) fun M1 =>
  pF M1 6 a0 1 (.ref a2) fun M2 =>
  PX2_draft a2 M2 fun q3 =>
  pF M2 6 a0 2 (.ref q3) fun M5 =>
  pF M5 6 a0 3 (.int (J 0)) fun M6 =>
  pF M6 6 a0 4 (.int (J 0)) fun M7 =>
  pF M7 6 a0 5 (.int (J (-1))) fun M8 =>
  pF M8 6 a0 6 (.int (J 0)) fun M9 =>
  pF M9 6 a0 7 (.int (J 0)) fun M10 =>
  K M10)
theorem tX5_init {a0 : Nat} {a1 : Nat} {a2 : Nat} {M : Mem} {K : Mem → Prop} (h : PX5_init a0 a1 a2 M K) : (M.1 a0).1 = 6 := h.1
def PX5_next (a0 : Nat) (M : Mem) (K : Int32 → Prop) : Prop :=
tS M 6 a0 (
  gR M 6 a0 0 fun q1 =>
  gI M 6 a0 3 fun v2 =>
  PX1_get q1 v2 M fun r3 =>
  K r3)
theorem tX5_next {a0 : Nat} {M : Mem} {K : Int32 → Prop} (h : PX5_next a0 M K) : (M.1 a0).1 = 6 := h.1
def JX5_skipBlanks_39 (K : Int32 → Mem → Prop) (M : Mem) (j0 : Nat) (j1 : Int32) : Prop :=
  gI M 6 j0 3 fun v3 =>
  xbr (v3 ≤ j1) (
    isB (J 0) ∧ K (J 0) M) (
    isB (J 1) ∧ K (J 1) M)
def CX5_skipBlanks_7 (K : Int32 → Mem → Prop) (u0 : Nat) (u1 : Int32) (kc7 : (Mem × Int32) → Prop) (M : Mem) (x2 : Int32) : Prop :=
  xbr ((J 600) ≤ x2) (
    JX5_skipBlanks_39 K M u0 u1) (
    PX5_next u0 M fun r5 =>
    xbr (r5 = (J 32)) (
      gI M 6 u0 3 fun v8 =>
      pF M 6 u0 3 (.int (v8 + (J 1))) fun M9 =>
      kc7 (M9, (x2 + (J 1)))) (
      JX5_skipBlanks_39 K M u0 u1))
def BX5_skipBlanks_7 (K : Int32 → Mem → Prop) (u0 : Nat) (u1 : Int32) (kc7 : (Mem × Int32) → Prop) (s : (Mem × Int32)) : Prop := CX5_skipBlanks_7 K u0 u1 kc7 s.1 s.2
def PX5_skipBlanks (a0 : Nat) (M : Mem) (K : Int32 → Mem → Prop) : Prop :=
tS M 6 a0 (
  gI M 6 a0 3 fun v1 =>
  lp (BX5_skipBlanks_7 K a0 v1) (M, (J 0)))
theorem tX5_skipBlanks {a0 : Nat} {M : Mem} {K : Int32 → Mem → Prop} (h : PX5_skipBlanks a0 M K) : (M.1 a0).1 = 6 := h.1
def PX5_isLetter (x0 : Int32) (M : Mem) (K : Int32 → Prop) : Prop :=
  xbr (x0 < (J 97)) (
    isB (J 0) ∧ K (J 0)) (
    xbr ((J 122) < x0) (
      isB (J 0) ∧ K (J 0)) (
      isB (J 1) ∧ K (J 1)))
def PX5_fail (a0 : Nat) (x1 : Int32) (x2 : Int32) (M : Mem) (K : Int32 → Mem → Prop) : Prop :=
tS M 6 a0 (
  pF M 6 a0 4 (.int x1) fun M1 =>
  pF M1 6 a0 5 (.int x2) fun M2 =>
  isB (J 0) ∧ K (J 0) M2)
theorem tX5_fail {a0 : Nat} {x1 : Int32} {x2 : Int32} {M : Mem} {K : Int32 → Mem → Prop} (h : PX5_fail a0 x1 x2 M K) : (M.1 a0).1 = 6 := h.1
def PX5_takeSign (a0 : Nat) (M : Mem) (K : Int32 → Mem → Prop) : Prop :=
tS M 6 a0 (
  gR M 6 a0 0 fun q1 =>
  gI M 6 a0 3 fun v2 =>
  PX1_get q1 v2 M fun r3 =>
  gR M 6 a0 2 fun q5 =>
  gR M 1 q5 0 fun q6 =>
  PX1_append q6 r3 M fun M8 =>
  gI M8 6 a0 3 fun v9 =>
  pF M8 6 a0 3 (.int (v9 + (J 1))) fun M10 =>
  K r3 M10)
theorem tX5_takeSign {a0 : Nat} {M : Mem} {K : Int32 → Mem → Prop} (h : PX5_takeSign a0 M K) : (M.1 a0).1 = 6 := h.1
def PX5_takeLetter (a0 : Nat) (M : Mem) (K : Int32 → Mem → Prop) : Prop :=
tS M 6 a0 (
  PX5_takeSign a0 M fun r1 M2 =>
  K ((r1 - (J 97)) + (J 1)) M2)
theorem tX5_takeLetter {a0 : Nat} {M : Mem} {K : Int32 → Mem → Prop} (h : PX5_takeLetter a0 M K) : (M.1 a0).1 = 6 := h.1
def PX5_readClass (a0 : Nat) (M : Mem) (K : Int32 → Mem → Prop) : Prop :=
tS M 6 a0 (
  PX5_next a0 M fun r1 =>
  PX5_isLetter r1 M fun r3 =>
  xbr (r3 = (J 0)) (
    gI M 6 a0 3 fun v42 =>
    PX5_fail a0 (J 1) v42 M fun r43 M44 =>
    isB r43 ∧ K r43 M44) (
    gR M 6 a0 1 fun q6 =>
    PX2_hasSpace q6 M fun r7 =>
    xbr (r7 = (J 0)) (
      gI M 6 a0 3 fun v39 =>
      PX5_fail a0 (J 4) v39 M fun r40 M41 =>
      isB r40 ∧ K r40 M41) (
      gR M 6 a0 1 fun q10 =>
      PX2_draft q10 M fun q11 =>
      pF M 6 a0 2 (.ref q11) fun M13 =>
      gR M13 6 a0 2 fun q14 =>
      PX0_clear q14 M13 fun M16 =>
      gR M16 6 a0 2 fun q17 =>
      PX5_takeLetter a0 M16 fun r18 M19 =>
      pF M19 1 q17 1 (.int r18) fun M20 =>
      PX5_next a0 M20 fun r21 =>
      PX5_isLetter r21 M20 fun r23 =>
      xbr (r23 = (J 0)) (
        isB (J 1) ∧ K (J 1) M20) (
        gR M20 6 a0 2 fun q26 =>
        PX5_takeLetter a0 M20 fun r27 M28 =>
        pF M28 1 q26 2 (.int r27) fun M29 =>
        PX5_next a0 M29 fun r30 =>
        PX5_isLetter r30 M29 fun r32 =>
        xbr (r32 = (J 0)) (
          isB (J 1) ∧ K (J 1) M29) (
          gI M29 6 a0 3 fun v35 =>
          PX5_fail a0 (J 2) v35 M29 fun r36 M37 =>
          xbr (r36 = (J 0)) (
            isB (J 0) ∧ K (J 0) M37) (
            isB (J 1) ∧ K (J 1) M37))))))
theorem tX5_readClass {a0 : Nat} {M : Mem} {K : Int32 → Mem → Prop} (h : PX5_readClass a0 M K) : (M.1 a0).1 = 6 := h.1
def PX5_isFigure (x0 : Int32) (M : Mem) (K : Int32 → Prop) : Prop :=
  xbr (x0 < (J 48)) (
    isB (J 0) ∧ K (J 0)) (
    xbr ((J 57) < x0) (
      isB (J 0) ∧ K (J 0)) (
      isB (J 1) ∧ K (J 1)))
def CX5_filled_4 (K : Int32 → Prop) (M : Mem) (u1 : Int32) (kc4 : (Int32 × Int32) → Prop) (x2 : Int32) (x3 : Int32) : Prop :=
  xbr ((J 4) ≤ x3) (
    K ((x2 * (J 5)) + u1)) (
    ∃ y2 : Int32, y2 = (x2 * (J 10)) ∧
    kc4 (y2, (x3 + (J 1))))
def BX5_filled_4 (K : Int32 → Prop) (M : Mem) (u1 : Int32) (kc4 : (Int32 × Int32) → Prop) (s : (Int32 × Int32)) : Prop := CX5_filled_4 K M u1 kc4 s.1 s.2
def PX5_filled (x0 : Int32) (x1 : Int32) (M : Mem) (K : Int32 → Prop) : Prop :=
  lp (BX5_filled_4 K M x1) (x0, x1)
def JX5_readFigures_67 (K : Int32 → Mem → Prop) (M : Mem) (j0 : Nat) (j1 : Int32) : Prop :=
  gI M 6 j0 6 fun v8 =>
  PX5_filled v8 j1 M fun r9 =>
  pF M 6 j0 7 (.int r9) fun M11 =>
  PX5_next j0 M11 fun r12 =>
  PX5_isFigure r12 M11 fun r14 =>
  xbr (r14 = (J 0)) (
    isB (J 1) ∧ K (J 1) M11) (
    gI M11 6 j0 3 fun v17 =>
    PX5_fail j0 (J 2) v17 M11 fun r18 M19 =>
    xbr (r18 = (J 0)) (
      isB (J 0) ∧ K (J 0) M19) (
      isB (J 1) ∧ K (J 1) M19))
def CX5_readFigures_27 (K : Int32 → Mem → Prop) (u0 : Nat) (kc27 : (Mem × Int32) → Prop) (M : Mem) (x1 : Int32) : Prop :=
  xbr ((J 4) ≤ x1) (
    JX5_readFigures_67 K M u0 x1) (
    PX5_next u0 M fun r21 =>
    PX5_isFigure r21 M fun r23 =>
    xbr (r23 = (J 0)) (
      JX5_readFigures_67 K M u0 x1) (
      gI M 6 u0 6 fun v26 =>
      PX5_takeSign u0 M fun r27 M28 =>
      pF M28 6 u0 6 (.int (((v26 * (J 10)) + r27) - (J 48))) fun M29 =>
      kc27 (M29, (x1 + (J 1)))))
def BX5_readFigures_27 (K : Int32 → Mem → Prop) (u0 : Nat) (kc27 : (Mem × Int32) → Prop) (s : (Mem × Int32)) : Prop := CX5_readFigures_27 K u0 kc27 s.1 s.2
def PX5_readFigures (a0 : Nat) (M : Mem) (K : Int32 → Mem → Prop) : Prop :=
tS M 6 a0 (
  PX5_next a0 M fun r1 =>
  PX5_isFigure r1 M fun r3 =>
  xbr (r3 = (J 0)) (
    gI M 6 a0 3 fun v30 =>
    PX5_fail a0 (J 1) v30 M fun r31 M32 =>
    isB r31 ∧ K r31 M32) (
    pF M 6 a0 6 (.int (J 0)) fun M6 =>
    lp (BX5_readFigures_27 K a0) (M6, (J 0))))
theorem tX5_readFigures {a0 : Nat} {M : Mem} {K : Int32 → Mem → Prop} (h : PX5_readFigures a0 M K) : (M.1 a0).1 = 6 := h.1
def PX5_readNumber (a0 : Nat) (M : Mem) (K : Int32 → Mem → Prop) : Prop :=
tS M 6 a0 (
  PX5_next a0 M fun r1 =>
  xbr (r1 = (J 48)) (
    gI M 6 a0 3 fun v13 =>
    PX5_fail a0 (J 1) v13 M fun r14 M15 =>
    isB r14 ∧ K r14 M15) (
    PX5_readFigures a0 M fun r4 M5 =>
    xbr (r4 = (J 0)) (
      isB (J 0) ∧ K (J 0) M5) (
      gR M5 6 a0 2 fun q7 =>
      gI M5 6 a0 6 fun v8 =>
      pF M5 1 q7 3 (.int v8) fun M9 =>
      gR M9 6 a0 2 fun q10 =>
      gI M9 6 a0 7 fun v11 =>
      pF M9 1 q10 4 (.int v11) fun M12 =>
      isB (J 1) ∧ K (J 1) M12)))
theorem tX5_readNumber {a0 : Nat} {M : Mem} {K : Int32 → Mem → Prop} (h : PX5_readNumber a0 M K) : (M.1 a0).1 = 6 := h.1
def PX5_readDecimals (a0 : Nat) (M : Mem) (K : Int32 → Mem → Prop) : Prop :=
tS M 6 a0 (
  PX5_next a0 M fun r1 =>
  xbr (r1 = (J 46)) (
    gR M 6 a0 0 fun q4 =>
    gI M 6 a0 3 fun v5 =>
    PX1_get q4 (v5 + (J 1)) M fun r6 =>
    PX5_isFigure r6 M fun r8 =>
    xbr (r8 = (J 0)) (
      isB (J 1) ∧ K (J 1) M) (
      PX5_takeSign a0 M fun r11 M12 =>
      PX5_readFigures a0 M12 fun r13 M14 =>
      xbr (r13 = (J 0)) (
        isB (J 0) ∧ K (J 0) M14) (
        gR M14 6 a0 2 fun q16 =>
        gI M14 6 a0 6 fun v17 =>
        pF M14 1 q16 5 (.int v17) fun M18 =>
        gR M18 6 a0 2 fun q19 =>
        gI M18 6 a0 7 fun v20 =>
        pF M18 1 q19 6 (.int v20) fun M21 =>
        isB (J 1) ∧ K (J 1) M21))) (
    isB (J 1) ∧ K (J 1) M))
theorem tX5_readDecimals {a0 : Nat} {M : Mem} {K : Int32 → Mem → Prop} (h : PX5_readDecimals a0 M K) : (M.1 a0).1 = 6 := h.1
def PX5_readCutter (a0 : Nat) (M : Mem) (K : Int32 → Mem → Prop) : Prop :=
tS M 6 a0 (
  PX5_next a0 M fun r1 =>
  xbr (r1 = (J 46)) (
    PX5_takeSign a0 M fun r4 M5 =>
    PX5_next a0 M5 fun r6 =>
    PX5_isLetter r6 M5 fun r8 =>
    xbr (r8 = (J 0)) (
      gI M5 6 a0 3 fun v24 =>
      PX5_fail a0 (J 1) v24 M5 fun r25 M26 =>
      isB r25 ∧ K r25 M26) (
      gR M5 6 a0 2 fun q11 =>
      PX5_takeLetter a0 M5 fun r12 M13 =>
      pF M13 1 q11 7 (.int r12) fun M14 =>
      PX5_readFigures a0 M14 fun r15 M16 =>
      xbr (r15 = (J 0)) (
        isB (J 0) ∧ K (J 0) M16) (
        gR M16 6 a0 2 fun q18 =>
        gI M16 6 a0 6 fun v19 =>
        pF M16 1 q18 8 (.int v19) fun M20 =>
        gR M20 6 a0 2 fun q21 =>
        gI M20 6 a0 7 fun v22 =>
        pF M20 1 q21 9 (.int v22) fun M23 =>
        isB (J 1) ∧ K (J 1) M23))) (
    isB (J 1) ∧ K (J 1) M))
theorem tX5_readCutter {a0 : Nat} {M : Mem} {K : Int32 → Mem → Prop} (h : PX5_readCutter a0 M K) : (M.1 a0).1 = 6 := h.1
def JX5_readYear_99 (K : Int32 → Mem → Prop) (M : Mem) (j0 : Nat) (j1 : Int32) : Prop :=
  PX5_fail j0 (J 3) j1 M fun r12 M13 =>
  isB r12 ∧ K r12 M13
def CX5_readYear_29 (K : Int32 → Mem → Prop) (u0 : Nat) (u1 : Int32) (kc29 : (Mem × Int32) → Prop) (M : Mem) (x2 : Int32) : Prop :=
  xbr ((J 4) ≤ x2) (
    gI M 6 u0 6 fun v10 =>
    xbr (v10 < (J 1000)) (
      JX5_readYear_99 K M u0 u1) (
      gI M 6 u0 6 fun v14 =>
      xbr (v14 ≤ (J 2999)) (
        gR M 6 u0 2 fun q16 =>
        gI M 6 u0 6 fun v17 =>
        pF M 1 q16 10 (.int v17) fun M18 =>
        isB (J 1) ∧ K (J 1) M18) (
        JX5_readYear_99 K M u0 u1))) (
    PX5_next u0 M fun r19 =>
    PX5_isFigure r19 M fun r21 =>
    xbr (r21 = (J 0)) (
      gI M 6 u0 3 fun v28 =>
      PX5_fail u0 (J 1) v28 M fun r29 M30 =>
      isB r29 ∧ K r29 M30) (
      gI M 6 u0 6 fun v24 =>
      PX5_takeSign u0 M fun r25 M26 =>
      pF M26 6 u0 6 (.int (((v24 * (J 10)) + r25) - (J 48))) fun M27 =>
      kc29 (M27, (x2 + (J 1)))))
def BX5_readYear_29 (K : Int32 → Mem → Prop) (u0 : Nat) (u1 : Int32) (kc29 : (Mem × Int32) → Prop) (s : (Mem × Int32)) : Prop := CX5_readYear_29 K u0 u1 kc29 s.1 s.2
def PX5_readYear (a0 : Nat) (M : Mem) (K : Int32 → Mem → Prop) : Prop :=
tS M 6 a0 (
  gR M 6 a0 2 fun q1 =>
  gR M 1 q1 0 fun q2 =>
  PX1_append q2 (J 32) M fun M4 =>
  PX5_takeSign a0 M4 fun r5 M6 =>
  gI M6 6 a0 3 fun v7 =>
  pF M6 6 a0 6 (.int (J 0)) fun M8 =>
  lp (BX5_readYear_29 K a0 v7) (M8, (J 0)))
theorem tX5_readYear {a0 : Nat} {M : Mem} {K : Int32 → Mem → Prop} (h : PX5_readYear a0 M K) : (M.1 a0).1 = 6 := h.1
def JX5_readThickness_29 (K : Int32 → Mem → Prop) (M : Mem) (j0 : Nat) : Prop :=
  gI M 6 j0 3 fun v8 =>
  PX5_fail j0 (J 1) v8 M fun r9 M10 =>
  isB r9 ∧ K r9 M10
def PX5_readThickness (a0 : Nat) (M : Mem) (K : Int32 → Mem → Prop) : Prop :=
tS M 6 a0 (
  gI M 6 a0 3 fun v1 =>
  pF M 6 a0 3 (.int (v1 + (J 1))) fun M2 =>
  PX5_next a0 M2 fun r3 =>
  PX5_isFigure r3 M2 fun r5 =>
  xbr (r5 = (J 0)) (
    JX5_readThickness_29 K M2 a0) (
    PX5_next a0 M2 fun r11 =>
    xbr (r11 = (J 48)) (
      JX5_readThickness_29 K M2 a0) (
      gR M2 6 a0 2 fun q14 =>
      PX5_next a0 M2 fun r15 =>
      pF M2 1 q14 11 (.int (r15 - (J 48))) fun M17 =>
      gI M17 6 a0 3 fun v18 =>
      pF M17 6 a0 3 (.int (v18 + (J 1))) fun M19 =>
      isB (J 1) ∧ K (J 1) M19)))
theorem tX5_readThickness {a0 : Nat} {M : Mem} {K : Int32 → Mem → Prop} (h : PX5_readThickness a0 M K) : (M.1 a0).1 = 6 := h.1
def JX5_readBehindBlanks_32 (K : Int32 → Mem → Prop) (M : Mem) (j0 : Nat) (j1 : Int32) : Prop :=
  xbr (j1 = (J 0)) (
    isB (J 1) ∧ K (J 1) M) (
    PX5_next j0 M fun r5 =>
    xbr (r5 = (J 119)) (
      PX5_readThickness j0 M fun r8 M9 =>
      xbr (r8 = (J 0)) (
        isB (J 0) ∧ K (J 0) M9) (
        PX5_skipBlanks j0 M9 fun r11 M12 =>
        isB (J 1) ∧ K (J 1) M12)) (
      isB (J 1) ∧ K (J 1) M))
def PX5_readBehindBlanks (a0 : Nat) (M : Mem) (K : Int32 → Mem → Prop) : Prop :=
tS M 6 a0 (
  PX5_skipBlanks a0 M fun r1 M2 =>
  xbr (r1 = (J 0)) (
    JX5_readBehindBlanks_32 K M2 a0 r1) (
    PX5_next a0 M2 fun r13 =>
    xbr (r13 = (J 121)) (
      PX5_readYear a0 M2 fun r16 M17 =>
      xbr (r16 = (J 0)) (
        isB (J 0) ∧ K (J 0) M17) (
        PX5_skipBlanks a0 M17 fun r19 M20 =>
        JX5_readBehindBlanks_32 K M20 a0 r19)) (
      JX5_readBehindBlanks_32 K M2 a0 r1)))
theorem tX5_readBehindBlanks {a0 : Nat} {M : Mem} {K : Int32 → Mem → Prop} (h : PX5_readBehindBlanks a0 M K) : (M.1 a0).1 = 6 := h.1
def PX5_readEnd (a0 : Nat) (M : Mem) (K : Int32 → Mem → Prop) : Prop :=
tS M 6 a0 (
  PX5_next a0 M fun r1 =>
  xbr (r1 = (J 59)) (
    gR M 6 a0 1 fun q4 =>
    PX2_hasMarkOfDraft q4 M fun r5 =>
    xbr (r5 = (J 0)) (
      gR M 6 a0 1 fun q8 =>
      PX2_endDraft q8 M fun M10 =>
      gI M10 6 a0 3 fun v11 =>
      pF M10 6 a0 3 (.int (v11 + (J 1))) fun M12 =>
      isB (J 1) ∧ K (J 1) M12) (
      gI M 6 a0 3 fun v13 =>
      PX5_fail a0 (J 5) v13 M fun r14 M15 =>
      isB r14 ∧ K r14 M15)) (
    gI M 6 a0 3 fun v16 =>
    PX5_fail a0 (J 1) v16 M fun r17 M18 =>
    isB r17 ∧ K r17 M18))
theorem tX5_readEnd {a0 : Nat} {M : Mem} {K : Int32 → Mem → Prop} (h : PX5_readEnd a0 M K) : (M.1 a0).1 = 6 := h.1
def PX5_readClause (a0 : Nat) (M : Mem) (K : Int32 → Mem → Prop) : Prop :=
tS M 6 a0 (
  PX5_readClass a0 M fun r1 M2 =>
  xbr (r1 = (J 0)) (
    isB (J 0) ∧ K (J 0) M2) (
    PX5_readNumber a0 M2 fun r4 M5 =>
    xbr (r4 = (J 0)) (
      isB (J 0) ∧ K (J 0) M5) (
      PX5_readDecimals a0 M5 fun r7 M8 =>
      xbr (r7 = (J 0)) (
        isB (J 0) ∧ K (J 0) M8) (
        PX5_readCutter a0 M8 fun r10 M11 =>
        xbr (r10 = (J 0)) (
          isB (J 0) ∧ K (J 0) M11) (
          PX5_readBehindBlanks a0 M11 fun r13 M14 =>
          xbr (r13 = (J 0)) (
            isB (J 0) ∧ K (J 0) M14) (
            PX5_readEnd a0 M14 fun r16 M17 =>
            xbr (r16 = (J 0)) (
              isB (J 0) ∧ K (J 0) M17) (
              isB (J 1) ∧ K (J 1) M17)))))))
theorem tX5_readClause {a0 : Nat} {M : Mem} {K : Int32 → Mem → Prop} (h : PX5_readClause a0 M K) : (M.1 a0).1 = 6 := h.1
def CX5_parse_7 (K : Int32 → Mem → Prop) (u0 : Nat) (kc7 : (Mem × Int32) → Prop) (M : Mem) (x1 : Int32) : Prop :=
  xbr ((J 600) ≤ x1) (
    K (J 0) M) (
    gI M 6 u0 3 fun v4 =>
    gR M 6 u0 0 fun q5 =>
    PX1_size q5 M fun r6 =>
    xbr (r6 ≤ v4) (
      K (J 0) M) (
      PX5_readClause u0 M fun r9 M10 =>
      xbr (r9 = (J 0)) (
        gI M10 6 u0 4 fun v14 =>
        K v14 M10) (
        PX5_skipBlanks u0 M10 fun r12 M13 =>
        kc7 (M13, (x1 + (J 1))))))
def BX5_parse_7 (K : Int32 → Mem → Prop) (u0 : Nat) (kc7 : (Mem × Int32) → Prop) (s : (Mem × Int32)) : Prop := CX5_parse_7 K u0 kc7 s.1 s.2
def PX5_parse (a0 : Nat) (M : Mem) (K : Int32 → Mem → Prop) : Prop :=
tS M 6 a0 (
  PX5_skipBlanks a0 M fun r1 M2 =>
  lp (BX5_parse_7 K a0) (M2, (J 0)))
theorem tX5_parse {a0 : Nat} {M : Mem} {K : Int32 → Mem → Prop} (h : PX5_parse a0 M K) : (M.1 a0).1 = 6 := h.1
def PX5_faultAt (a0 : Nat) (M : Mem) (K : Int32 → Prop) : Prop :=
tS M 6 a0 (
  gI M 6 a0 5 fun v1 =>
  K v1)
theorem tX5_faultAt {a0 : Nat} {M : Mem} {K : Int32 → Prop} (h : PX5_faultAt a0 M K) : (M.1 a0).1 = 6 := h.1
def PX6_size (a0 : Nat) (M : Mem) (K : Int32 → Prop) : Prop :=
tS M 7 a0 (
  gI M 7 a0 2 fun v1 =>
  K v1)
theorem tX6_size {a0 : Nat} {M : Mem} {K : Int32 → Prop} (h : PX6_size a0 M K) : (M.1 a0).1 = 7 := h.1
def PX6_stands (a0 : Nat) (x1 : Int32) (M : Mem) (K : Int32 → Prop) : Prop :=
tS M 7 a0 (
  PX6_shelfOf a0 x1 M fun r1 =>
  xbr (r1 = (J (-1))) (
    isB (J 0) ∧ K (J 0)) (
    isB (J 1) ∧ K (J 1)))
theorem tX6_stands {a0 : Nat} {x1 : Int32} {M : Mem} {K : Int32 → Prop} (h : PX6_stands a0 x1 M K) : (M.1 a0).1 = 7 := h.1
def CX6_indexOf_2 (K : Int32 → Prop) (M : Mem) (u0 : Nat) (u1 : Int32) (kc2 : Int32 → Prop) (x2 : Int32) : Prop :=
  gI M 7 u0 2 fun v1 =>
  xbr (v1 ≤ x2) (
    K (J (-1))) (
    PX6_bookAt u0 x2 M fun r3 =>
    xbr (r3 = u1) (
      K x2) (
      kc2 (x2 + (J 1))))
def BX6_indexOf_2 (K : Int32 → Prop) (M : Mem) (u0 : Nat) (u1 : Int32) (kc2 : Int32 → Prop) (s : Int32) : Prop := CX6_indexOf_2 K M u0 u1 kc2 s
def PX6_indexOf (a0 : Nat) (x1 : Int32) (M : Mem) (K : Int32 → Prop) : Prop :=
tS M 7 a0 (
  lp (BX6_indexOf_2 K M a0 x1) (J 0))
theorem tX6_indexOf {a0 : Nat} {x1 : Int32} {M : Mem} {K : Int32 → Prop} (h : PX6_indexOf a0 x1 M K) : (M.1 a0).1 = 7 := h.1
def CX6_standing_4 (K : Int32 → Prop) (M : Mem) (u0 : Nat) (kc4 : (Int32 × Int32) → Prop) (x1 : Int32) (x2 : Int32) : Prop :=
  xbr ((J 24) ≤ x2) (
    K x1) (
    PX6_stands u0 x2 M fun r2 =>
    xbr (r2 = (J 0)) (
      kc4 (x1, (x2 + (J 1)))) (
      ∃ y5 : Int32, y5 = (x1 ||| ((J 1) <<< (x2 &&& 31))) ∧
      kc4 (y5, (x2 + (J 1)))))
def BX6_standing_4 (K : Int32 → Prop) (M : Mem) (u0 : Nat) (kc4 : (Int32 × Int32) → Prop) (s : (Int32 × Int32)) : Prop := CX6_standing_4 K M u0 kc4 s.1 s.2
def PX6_standing (a0 : Nat) (M : Mem) (K : Int32 → Prop) : Prop :=
tS M 7 a0 (
  lp (BX6_standing_4 K M a0) ((J 0), (J 0)))
theorem tX6_standing {a0 : Nat} {M : Mem} {K : Int32 → Prop} (h : PX6_standing a0 M K) : (M.1 a0).1 = 7 := h.1
def CX6_start_14 (K : Int32 → Prop) (M : Mem) (u1 : Int32) (u3 : Nat) (u4 : Int32) (kc14 : (Int32 × Int32) → Prop) (x2 : Int32) (x5 : Int32) : Prop :=
  xbr (u4 ≤ x5) (
    K x2) (
    aI M u3 x5 fun v4 =>
    xbr (v4 = (J (-1))) (
      kc14 (x2, (x5 + (J 1)))) (
      xbr (u1 ≤ v4) (
        kc14 (x2, (x5 + (J 1)))) (
        kc14 ((x2 + (J 1)), (x5 + (J 1))))))
def BX6_start_14 (K : Int32 → Prop) (M : Mem) (u1 : Int32) (u3 : Nat) (u4 : Int32) (kc14 : (Int32 × Int32) → Prop) (s : (Int32 × Int32)) : Prop := CX6_start_14 K M u1 u3 u4 kc14 s.1 s.2
def PX6_start (a0 : Nat) (x1 : Int32) (M : Mem) (K : Int32 → Prop) : Prop :=
tS M 7 a0 (
  gR M 7 a0 1 fun q1 =>
  aL M 100 q1 fun v2 =>
  lp (BX6_start_14 K M x1 q1 v2) ((J 0), (J 0)))
theorem tX6_start {a0 : Nat} {x1 : Int32} {M : Mem} {K : Int32 → Prop} (h : PX6_start a0 x1 M K) : (M.1 a0).1 = 7 := h.1
def CX6_amount_14 (K : Int32 → Prop) (M : Mem) (u1 : Int32) (u3 : Nat) (u4 : Int32) (kc14 : (Int32 × Int32) → Prop) (x2 : Int32) (x5 : Int32) : Prop :=
  xbr (u4 ≤ x5) (
    K x2) (
    aI M u3 x5 fun v4 =>
    xbr (v4 = u1) (
      kc14 ((x2 + (J 1)), (x5 + (J 1)))) (
      kc14 (x2, (x5 + (J 1)))))
def BX6_amount_14 (K : Int32 → Prop) (M : Mem) (u1 : Int32) (u3 : Nat) (u4 : Int32) (kc14 : (Int32 × Int32) → Prop) (s : (Int32 × Int32)) : Prop := CX6_amount_14 K M u1 u3 u4 kc14 s.1 s.2
def PX6_amount (a0 : Nat) (x1 : Int32) (M : Mem) (K : Int32 → Prop) : Prop :=
tS M 7 a0 (
  gR M 7 a0 1 fun q1 =>
  aL M 100 q1 fun v2 =>
  lp (BX6_amount_14 K M x1 q1 v2) ((J 0), (J 0)))
theorem tX6_amount {a0 : Nat} {x1 : Int32} {M : Mem} {K : Int32 → Prop} (h : PX6_amount a0 x1 M K) : (M.1 a0).1 = 7 := h.1
def PX6_onShelf (a0 : Nat) (x1 : Int32) (x2 : Int32) (M : Mem) (K : Int32 → Prop) : Prop :=
tS M 7 a0 (
  xbr (x2 < (J 0)) (
    K (J (-1))) (
    PX6_amount a0 x1 M fun r2 =>
    xbr (r2 ≤ x2) (
      K (J (-1))) (
      PX6_start a0 x1 M fun r5 =>
      PX6_bookAt a0 (r5 + x2) M fun r7 =>
      K r7)))
theorem tX6_onShelf {a0 : Nat} {x1 : Int32} {x2 : Int32} {M : Mem} {K : Int32 → Prop} (h : PX6_onShelf a0 x1 x2 M K) : (M.1 a0).1 = 7 := h.1
def CX6_insert_28 (K : Mem → Prop) (u0 : Nat) (u1 : Int32) (u2 : Int32) (u3 : Int32) (kc28 : (Mem × Int32) → Prop) (M : Mem) (x4 : Int32) : Prop :=
  xbr (x4 ≤ u1) (
    gR M 7 u0 0 fun q8 =>
    PX10_write q8 u1 u2 M fun M10 =>
    gR M10 7 u0 1 fun q11 =>
    PX10_write q11 u2 u3 M10 fun M13 =>
    gI M13 7 u0 2 fun v14 =>
    pF M13 7 u0 2 (.int (v14 + (J 1))) fun M15 =>
    K M15) (
    gR M 7 u0 0 fun q16 =>
    gR M 7 u0 0 fun q17 =>
    PX10_entry q17 (x4 - (J 1)) M fun r18 =>
    PX10_write q16 x4 r18 M fun M21 =>
    kc28 (M21, (x4 + (J (-1)))))
def BX6_insert_28 (K : Mem → Prop) (u0 : Nat) (u1 : Int32) (u2 : Int32) (u3 : Int32) (kc28 : (Mem × Int32) → Prop) (s : (Mem × Int32)) : Prop := CX6_insert_28 K u0 u1 u2 u3 kc28 s.1 s.2
def PX6_insert (a0 : Nat) (x1 : Int32) (x2 : Int32) (x3 : Int32) (M : Mem) (K : Mem → Prop) : Prop :=
tS M 7 a0 (
  gI M 7 a0 2 fun v1 =>
  xbr ((J 24) ≤ v1) (
    K M) (
    xbr (x1 < (J 0)) (
      K M) (
      gI M 7 a0 2 fun v4 =>
      xbr (x1 ≤ v4) (
        gI M 7 a0 2 fun v6 =>
        lp (BX6_insert_28 K a0 x1 x2 x3) (M, v6)) (
        K M))))
theorem tX6_insert {a0 : Nat} {x1 : Int32} {x2 : Int32} {x3 : Int32} {M : Mem} {K : Mem → Prop} (h : PX6_insert a0 x1 x2 x3 M K) : (M.1 a0).1 = 7 := h.1
def CX6_remove_24 (K : Mem → Prop) (u0 : Nat) (u1 : Int32) (kc24 : (Mem × Int32) → Prop) (M : Mem) (x3 : Int32) : Prop :=
  gI M 7 u0 2 fun v6 =>
  xbr (v6 ≤ x3) (
    gR M 7 u0 1 fun q8 =>
    PX10_write q8 u1 (J (-1)) M fun M10 =>
    K M10) (
    gR M 7 u0 0 fun q11 =>
    gR M 7 u0 0 fun q12 =>
    PX10_entry q12 (x3 + (J 1)) M fun r13 =>
    PX10_write q11 x3 r13 M fun M16 =>
    kc24 (M16, (x3 + (J 1))))
def BX6_remove_24 (K : Mem → Prop) (u0 : Nat) (u1 : Int32) (kc24 : (Mem × Int32) → Prop) (s : (Mem × Int32)) : Prop := CX6_remove_24 K u0 u1 kc24 s.1 s.2
def PX6_remove (a0 : Nat) (x1 : Int32) (M : Mem) (K : Mem → Prop) : Prop :=
tS M 7 a0 (
  PX6_indexOf a0 x1 M fun r1 =>
  xbr (r1 = (J (-1))) (
    K M) (
    gI M 7 a0 2 fun v4 =>
    pF M 7 a0 2 (.int (v4 - (J 1))) fun M5 =>
    lp (BX6_remove_24 K a0 x1) (M5, r1)))
theorem tX6_remove {a0 : Nat} {x1 : Int32} {M : Mem} {K : Mem → Prop} (h : PX6_remove a0 x1 M K) : (M.1 a0).1 = 7 := h.1
def PX6_edge (a0 : Nat) (x1 : Int32) (x2 : Int32) (M : Mem) (K : Int32 → Prop) : Prop :=
tS M 7 a0 (
  xbr (x2 = (J 1)) (
    PX6_start a0 (x1 + (J 1)) M fun r6 =>
    PX6_bookAt a0 (r6 - (J 1)) M fun r8 =>
    K r8) (
    PX6_start a0 x1 M fun r2 =>
    PX6_bookAt a0 r2 M fun r4 =>
    K r4))
theorem tX6_edge {a0 : Nat} {x1 : Int32} {x2 : Int32} {M : Mem} {K : Int32 → Prop} (h : PX6_edge a0 x1 x2 M K) : (M.1 a0).1 = 7 := h.1
def PX6_pass (a0 : Nat) (x1 : Int32) (x2 : Int32) (M : Mem) (K : Mem → Prop) : Prop :=
tS M 7 a0 (
  gR M 7 a0 1 fun q1 =>
  PX10_write q1 x1 x2 M fun M3 =>
  K M3)
theorem tX6_pass {a0 : Nat} {x1 : Int32} {x2 : Int32} {M : Mem} {K : Mem → Prop} (h : PX6_pass a0 x1 x2 M K) : (M.1 a0).1 = 7 := h.1
def CX6_carriedTo_4 (K : Int32 → Prop) (M : Mem) (u0 : Nat) (u1 : Nat) (kc4 : (Int32 × Int32) → Prop) (x2 : Int32) (x3 : Int32) : Prop :=
  xbr ((J 24) ≤ x3) (
    K x2) (
    PX6_shelfOf u0 x3 M fun r2 =>
    PX6_shelfOf u1 x3 M fun r4 =>
    xbr (r2 = r4) (
      kc4 (x2, (x3 + (J 1)))) (
      kc4 ((x2 + (J 1)), (x3 + (J 1)))))
def BX6_carriedTo_4 (K : Int32 → Prop) (M : Mem) (u0 : Nat) (u1 : Nat) (kc4 : (Int32 × Int32) → Prop) (s : (Int32 × Int32)) : Prop := CX6_carriedTo_4 K M u0 u1 kc4 s.1 s.2
def PX6_carriedTo (a0 : Nat) (a1 : Nat) (M : Mem) (K : Int32 → Prop) : Prop :=
tS M 7 a0 (
  lp (BX6_carriedTo_4 K M a0 a1) ((J 0), (J 0)))
theorem tX6_carriedTo {a0 : Nat} {a1 : Nat} {M : Mem} {K : Int32 → Prop} (h : PX6_carriedTo a0 a1 M K) : (M.1 a0).1 = 7 := h.1
def PX7_init (a0 : Nat) (M : Mem) (K : Mem → Prop) : Prop :=
tS M 8 a0 (
  nA M 100 (defaultValue .int) (J 8) 8 fun q1 M2 =>
  pF M2 8 a0 0 (.ref q1) fun M3 =>
  nA M3 100 (defaultValue .int) (J 8) 8 fun q4 M5 =>
  pF M5 8 a0 1 (.ref q4) fun M6 =>
  nA M6 100 (defaultValue .int) (J 8) 8 fun q7 M8 =>
  pF M8 8 a0 2 (.ref q7) fun M9 =>
  K M9)
theorem tX7_init {a0 : Nat} {M : Mem} {K : Mem → Prop} (h : PX7_init a0 M K) : (M.1 a0).1 = 8 := h.1
def CX7_begin_8 (K : Mem → Prop) (u0 : Nat) (u1 : Nat) (u2 : Nat) (u3 : Nat) (u4 : Int32) (kc8 : (Mem × Int32) → Prop) (M : Mem) (x5 : Int32) : Prop :=
  xbr ((J 8) ≤ x5) (
    K M) (
    PX3_chance u3 u1 u2 u4 x5 M fun r3 =>
    gR M 8 u0 0 fun q5 =>
    PX10_write q5 x5 r3 M fun M7 =>
    xbr (r3 ≤ (J 0)) (
      kc8 (M7, (x5 + (J 1)))) (
      gR M7 8 u0 1 fun q9 =>
      gI M7 8 u0 3 fun v10 =>
      PX10_write q9 v10 x5 M7 fun M12 =>
      gI M12 8 u0 3 fun v13 =>
      pF M12 8 u0 3 (.int (v13 + (J 1))) fun M14 =>
      kc8 (M14, (x5 + (J 1)))))
def BX7_begin_8 (K : Mem → Prop) (u0 : Nat) (u1 : Nat) (u2 : Nat) (u3 : Nat) (u4 : Int32) (kc8 : (Mem × Int32) → Prop) (s : (Mem × Int32)) : Prop := CX7_begin_8 K u0 u1 u2 u3 u4 kc8 s.1 s.2
def PX7_begin (a0 : Nat) (a1 : Nat) (a2 : Nat) (a3 : Nat) (x4 : Int32) (M : Mem) (K : Mem → Prop) : Prop :=
tS M 8 a0 (
  pF M 8 a0 3 (.int (J 0)) fun M1 =>
  lp (BX7_begin_8 K a0 a1 a2 a3 x4) (M1, (J 0)))
theorem tX7_begin {a0 : Nat} {a1 : Nat} {a2 : Nat} {a3 : Nat} {x4 : Int32} {M : Mem} {K : Mem → Prop} (h : PX7_begin a0 a1 a2 a3 x4 M K) : (M.1 a0).1 = 8 := h.1
def CX7_costOfTour_10 (K : Int32 → Prop) (M : Mem) (u0 : Nat) (u1 : Nat) (kc10 : (Int32 × Int32 × Int32 × Int32) → Prop) (x2 : Int32) (x3 : Int32) (x4 : Int32) (x5 : Int32) : Prop :=
  gI M 8 u0 3 fun v1 =>
  xbr (v1 ≤ x5) (
    K (x4 / (J 1000))) (
    gR M 8 u0 1 fun q3 =>
    PX10_entry q3 x5 M fun r4 =>
    PX6_amount u1 r4 M fun r6 =>
    ∃ y8 : Int32, y8 = (x3 + ((if 0 ≤ (r4 - x2) then (r4 - x2) else 0 - (r4 - x2)) + (if (J 1) < r6 then r6 else (J 1)))) ∧
    gR M 8 u0 0 fun q9 =>
    PX10_entry q9 r4 M fun r10 =>
    ∃ y12 : Int32, y12 = (x4 + (r10 * y8)) ∧
    kc10 (r4, y8, y12, (x5 + (J 1))))
def BX7_costOfTour_10 (K : Int32 → Prop) (M : Mem) (u0 : Nat) (u1 : Nat) (kc10 : (Int32 × Int32 × Int32 × Int32) → Prop) (s : (Int32 × Int32 × Int32 × Int32)) : Prop := CX7_costOfTour_10 K M u0 u1 kc10 s.1 s.2.1 s.2.2.1 s.2.2.2
def PX7_costOfTour (a0 : Nat) (a1 : Nat) (M : Mem) (K : Int32 → Prop) : Prop :=
tS M 8 a0 (
  lp (BX7_costOfTour_10 K M a0 a1) ((J 0), (J 0), (J 0), (J 0)))
theorem tX7_costOfTour {a0 : Nat} {a1 : Nat} {M : Mem} {K : Int32 → Prop} (h : PX7_costOfTour a0 a1 M K) : (M.1 a0).1 = 8 := h.1
def CX7_keepBest_7 (K : Mem → Prop) (u0 : Nat) (kc7 : (Mem × Int32) → Prop) (M : Mem) (x2 : Int32) : Prop :=
  gI M 8 u0 3 fun v2 =>
  xbr (v2 ≤ x2) (
    K M) (
    gR M 8 u0 2 fun q4 =>
    gR M 8 u0 1 fun q5 =>
    PX10_entry q5 x2 M fun r6 =>
    PX10_write q4 x2 r6 M fun M9 =>
    kc7 (M9, (x2 + (J 1))))
def BX7_keepBest_7 (K : Mem → Prop) (u0 : Nat) (kc7 : (Mem × Int32) → Prop) (s : (Mem × Int32)) : Prop := CX7_keepBest_7 K u0 kc7 s.1 s.2
def PX7_keepBest (a0 : Nat) (x1 : Int32) (M : Mem) (K : Mem → Prop) : Prop :=
tS M 8 a0 (
  pF M 8 a0 4 (.int x1) fun M1 =>
  lp (BX7_keepBest_7 K a0) (M1, (J 0)))
theorem tX7_keepBest {a0 : Nat} {x1 : Int32} {M : Mem} {K : Mem → Prop} (h : PX7_keepBest a0 x1 M K) : (M.1 a0).1 = 8 := h.1
def PX7_swap (a0 : Nat) (x1 : Int32) (x2 : Int32) (M : Mem) (K : Mem → Prop) : Prop :=
tS M 8 a0 (
  gR M 8 a0 1 fun q1 =>
  PX10_entry q1 x1 M fun r2 =>
  gR M 8 a0 1 fun q4 =>
  gR M 8 a0 1 fun q5 =>
  PX10_entry q5 x2 M fun r6 =>
  PX10_write q4 x1 r6 M fun M9 =>
  gR M9 8 a0 1 fun q10 =>
  PX10_write q10 x2 r2 M9 fun M12 =>
  K M12)
theorem tX7_swap {a0 : Nat} {x1 : Int32} {x2 : Int32} {M : Mem} {K : Mem → Prop} (h : PX7_swap a0 x1 x2 M K) : (M.1 a0).1 = 8 := h.1
def CX7_nextTour_99 (K : Int32 → Mem → Prop) (u0 : Nat) (kc99 : (Mem × Int32 × Int32) → Prop) (M : Mem) (x3 : Int32) (x4 : Int32) : Prop :=
  xbr (x4 ≤ x3) (
    isB (J 1) ∧ K (J 1) M) (
    PX7_swap u0 x3 x4 M fun M15 =>
    kc99 (M15, (x3 + (J 1)), (x4 + (J (-1)))))
def BX7_nextTour_99 (K : Int32 → Mem → Prop) (u0 : Nat) (kc99 : (Mem × Int32 × Int32) → Prop) (s : (Mem × Int32 × Int32)) : Prop := CX7_nextTour_99 K u0 kc99 s.1 s.2.1 s.2.2
def JX7_nextTour_81 (K : Int32 → Mem → Prop) (M : Mem) (j0 : Nat) (j1 : Int32) (j2 : Int32) : Prop :=
  PX7_swap j0 j1 j2 M fun M9 =>
  ∃ y10 : Int32, y10 = (j1 + (J 1)) ∧
  gI M9 8 j0 3 fun v11 =>
  ∃ y12 : Int32, y12 = (v11 - (J 1)) ∧
  lp (BX7_nextTour_99 K j0) (M9, y10, y12)
def CX7_nextTour_51 (K : Int32 → Mem → Prop) (M : Mem) (u0 : Nat) (u1 : Int32) (kc51 : Int32 → Prop) (x2 : Int32) : Prop :=
  xbr (x2 ≤ u1) (
    JX7_nextTour_81 K M u0 u1 x2) (
    gR M 8 u0 1 fun q16 =>
    PX10_entry q16 x2 M fun r17 =>
    gR M 8 u0 1 fun q19 =>
    PX10_entry q19 u1 M fun r20 =>
    xbr (r20 ≤ r17) (
      JX7_nextTour_81 K M u0 u1 x2) (
      kc51 (x2 + (J (-1)))))
def BX7_nextTour_51 (K : Int32 → Mem → Prop) (M : Mem) (u0 : Nat) (u1 : Int32) (kc51 : Int32 → Prop) (s : Int32) : Prop := CX7_nextTour_51 K M u0 u1 kc51 s
def JX7_nextTour_38 (K : Int32 → Mem → Prop) (M : Mem) (j0 : Nat) (j1 : Int32) : Prop :=
  xbr ((J 0) ≤ j1) (
    gI M 8 j0 3 fun v5 =>
    ∃ y6 : Int32, y6 = (v5 - (J 1)) ∧
    lp (BX7_nextTour_51 K M j0 j1) y6) (
    isB (J 0) ∧ K (J 0) M)
def CX7_nextTour_7 (K : Int32 → Mem → Prop) (M : Mem) (u0 : Nat) (kc7 : Int32 → Prop) (x1 : Int32) : Prop :=
  xbr (x1 < (J 0)) (
    JX7_nextTour_38 K M u0 x1) (
    gR M 8 u0 1 fun q23 =>
    PX10_entry q23 x1 M fun r24 =>
    gR M 8 u0 1 fun q26 =>
    PX10_entry q26 (x1 + (J 1)) M fun r27 =>
    xbr (r24 ≤ r27) (
      JX7_nextTour_38 K M u0 x1) (
      kc7 (x1 + (J (-1)))))
def BX7_nextTour_7 (K : Int32 → Mem → Prop) (M : Mem) (u0 : Nat) (kc7 : Int32 → Prop) (s : Int32) : Prop := CX7_nextTour_7 K M u0 kc7 s
def PX7_nextTour (a0 : Nat) (M : Mem) (K : Int32 → Mem → Prop) : Prop :=
tS M 8 a0 (
  gI M 8 a0 3 fun v1 =>
  ∃ y2 : Int32, y2 = (v1 - (J 2)) ∧
  lp (BX7_nextTour_7 K M a0) y2)
theorem tX7_nextTour {a0 : Nat} {M : Mem} {K : Int32 → Mem → Prop} (h : PX7_nextTour a0 M K) : (M.1 a0).1 = 8 := h.1
def CX7_find_11 (K : Mem → Prop) (u0 : Nat) (u1 : Nat) (kc11 : (Mem × Int32) → Prop) (M : Mem) (x2 : Int32) : Prop :=
  xbr ((J 120) ≤ x2) (
    K M) (
    PX7_nextTour u0 M fun r6 M7 =>
    xbr (r6 = (J 0)) (
      K M7) (
      PX7_costOfTour u0 u1 M7 fun r9 =>
      gI M7 8 u0 4 fun v11 =>
      xbr (v11 ≤ r9) (
        kc11 (M7, (x2 + (J 1)))) (
        PX7_keepBest u0 r9 M7 fun M14 =>
        kc11 (M14, (x2 + (J 1))))))
def BX7_find_11 (K : Mem → Prop) (u0 : Nat) (u1 : Nat) (kc11 : (Mem × Int32) → Prop) (s : (Mem × Int32)) : Prop := CX7_find_11 K u0 u1 kc11 s.1 s.2
def PX7_find (a0 : Nat) (a1 : Nat) (M : Mem) (K : Mem → Prop) : Prop :=
tS M 8 a0 (
  PX7_costOfTour a0 a1 M fun r1 =>
  PX7_keepBest a0 r1 M fun M4 =>
  lp (BX7_find_11 K a0 a1) (M4, (J 1)))
theorem tX7_find {a0 : Nat} {a1 : Nat} {M : Mem} {K : Mem → Prop} (h : PX7_find a0 a1 M K) : (M.1 a0).1 = 8 := h.1
def PX7_leastCost (a0 : Nat) (M : Mem) (K : Int32 → Prop) : Prop :=
tS M 8 a0 (
  gI M 8 a0 4 fun v1 =>
  K v1)
theorem tX7_leastCost {a0 : Nat} {M : Mem} {K : Int32 → Prop} (h : PX7_leastCost a0 M K) : (M.1 a0).1 = 8 := h.1
def PX7_shelfAt (a0 : Nat) (x1 : Int32) (M : Mem) (K : Int32 → Prop) : Prop :=
tS M 8 a0 (
  gI M 8 a0 3 fun v1 =>
  xbr (v1 ≤ x1) (
    K (J (-1))) (
    gR M 8 a0 2 fun q3 =>
    PX10_entry q3 x1 M fun r4 =>
    K r4))
theorem tX7_shelfAt {a0 : Nat} {x1 : Int32} {M : Mem} {K : Int32 → Prop} (h : PX7_shelfAt a0 x1 M K) : (M.1 a0).1 = 8 := h.1
def CX8_init_14 (K : Mem → Prop) (u0 : Nat) (kc14 : (Mem × Int32) → Prop) (M : Mem) (x1 : Int32) : Prop :=
  xbr ((J 8) ≤ x1) (
    K M) (
    gR M 9 u0 0 fun q5 =>
    PX10_write q5 x1 (J 30) M fun M7 =>
    kc14 (M7, (x1 + (J 1))))
def BX8_init_14 (K : Mem → Prop) (u0 : Nat) (kc14 : (Mem × Int32) → Prop) (s : (Mem × Int32)) : Prop := CX8_init_14 K u0 kc14 s.1 s.2
def PX8_init (a0 : Nat) (M : Mem) (K : Mem → Prop) : Prop :=
tS M 9 a0 (
  nA M 100 (defaultValue .int) (J 8) 8 fun q1 M2 =>
  pF M2 9 a0 0 (.ref q1) fun M3 =>
  lp (BX8_init_14 K a0) (M3, (J 0)))
theorem tX8_init {a0 : Nat} {M : Mem} {K : Mem → Prop} (h : PX8_init a0 M K) : (M.1 a0).1 = 9 := h.1
def PX8_widthOf (a0 : Nat) (x1 : Int32) (M : Mem) (K : Int32 → Prop) : Prop :=
tS M 9 a0 (
  gR M 9 a0 0 fun q1 =>
  PX10_entry q1 x1 M fun r2 =>
  K r2)
theorem tX8_widthOf {a0 : Nat} {x1 : Int32} {M : Mem} {K : Int32 → Prop} (h : PX8_widthOf a0 x1 M K) : (M.1 a0).1 = 9 := h.1
def PX8_widen (a0 : Nat) (x1 : Int32) (x2 : Int32) (M : Mem) (K : Mem → Prop) : Prop :=
tS M 9 a0 (
  gR M 9 a0 0 fun q1 =>
  PX10_write q1 x1 x2 M fun M3 =>
  K M3)
theorem tX8_widen {a0 : Nat} {x1 : Int32} {x2 : Int32} {M : Mem} {K : Mem → Prop} (h : PX8_widen a0 x1 x2 M K) : (M.1 a0).1 = 9 := h.1
def CX8_left_13 (K : Int32 → Prop) (M : Mem) (u1 : Nat) (u2 : Nat) (u3 : Int32) (kc13 : (Int32 × Int32) → Prop) (x4 : Int32) (x5 : Int32) : Prop :=
  PX2_size u2 M fun r4 =>
  xbr (r4 ≤ x5) (
    K x4) (
    PX6_shelfOf u1 x5 M fun r7 =>
    xbr (r7 = u3) (
      PX2_of u2 x5 M fun q10 =>
      gI M 1 q10 11 fun v12 =>
      ∃ y13 : Int32, y13 = (x4 - v12) ∧
      kc13 (y13, (x5 + (J 1)))) (
      kc13 (x4, (x5 + (J 1)))))
def BX8_left_13 (K : Int32 → Prop) (M : Mem) (u1 : Nat) (u2 : Nat) (u3 : Int32) (kc13 : (Int32 × Int32) → Prop) (s : (Int32 × Int32)) : Prop := CX8_left_13 K M u1 u2 u3 kc13 s.1 s.2
def PX8_left (a0 : Nat) (a1 : Nat) (a2 : Nat) (x3 : Int32) (M : Mem) (K : Int32 → Prop) : Prop :=
tS M 9 a0 (
  gR M 9 a0 0 fun q1 =>
  PX10_entry q1 x3 M fun r2 =>
  lp (BX8_left_13 K M a1 a2 x3) (r2, (J 0)))
theorem tX8_left {a0 : Nat} {a1 : Nat} {a2 : Nat} {x3 : Int32} {M : Mem} {K : Int32 → Prop} (h : PX8_left a0 a1 a2 x3 M K) : (M.1 a0).1 = 9 := h.1
def CX8_hold_2 (K : Int32 → Prop) (M : Mem) (u0 : Nat) (u1 : Nat) (u2 : Nat) (kc2 : Int32 → Prop) (x3 : Int32) : Prop :=
  xbr ((J 8) ≤ x3) (
    isB (J 1) ∧ K (J 1)) (
    PX8_left u0 u1 u2 x3 M fun r2 =>
    xbr ((J 0) ≤ r2) (
      kc2 (x3 + (J 1))) (
      isB (J 0) ∧ K (J 0)))
def BX8_hold_2 (K : Int32 → Prop) (M : Mem) (u0 : Nat) (u1 : Nat) (u2 : Nat) (kc2 : Int32 → Prop) (s : Int32) : Prop := CX8_hold_2 K M u0 u1 u2 kc2 s
def PX8_hold (a0 : Nat) (a1 : Nat) (a2 : Nat) (M : Mem) (K : Int32 → Prop) : Prop :=
tS M 9 a0 (
  lp (BX8_hold_2 K M a0 a1 a2) (J 0))
theorem tX8_hold {a0 : Nat} {a1 : Nat} {a2 : Nat} {M : Mem} {K : Int32 → Prop} (h : PX8_hold a0 a1 a2 M K) : (M.1 a0).1 = 9 := h.1
def PX10_isShelf (x0 : Int32) (M : Mem) (K : Int32 → Prop) : Prop :=
  xbr (x0 < (J 0)) (
    isB (J 0) ∧ K (J 0)) (
    xbr ((J 8) ≤ x0) (
      isB (J 0) ∧ K (J 0)) (
      isB (J 1) ∧ K (J 1)))
def JX8_relieve_57 (K : Int32 → Mem → Prop) (M : Mem) (j0 : Nat) (j1 : Nat) (j2 : Nat) (j3 : Int32) (j4 : Int32) : Prop :=
  PX8_left j0 j1 j2 j3 M fun r4 =>
  xbr (r4 < j4) (
    isB (J 0) ∧ K (J 0) M) (
    isB (J 1) ∧ K (J 1) M)
def CX8_relieve_7 (K : Int32 → Mem → Prop) (u0 : Nat) (u1 : Nat) (u2 : Nat) (u3 : Int32) (u4 : Int32) (u5 : Int32) (kc7 : (Mem × Int32) → Prop) (M : Mem) (x6 : Int32) : Prop :=
  xbr (x6 ≤ (J 0)) (
    JX8_relieve_57 K M u0 u1 u2 u3 u4) (
    PX8_left u0 u1 u2 u3 M fun r7 =>
    xbr (u4 ≤ r7) (
      JX8_relieve_57 K M u0 u1 u2 u3 u4) (
      PX10_isShelf (u3 + u5) M fun r10 =>
      xbr (r10 = (J 0)) (
        isB (J 0) ∧ K (J 0) M) (
        PX6_edge u1 u3 u5 M fun r13 =>
        PX6_pass u1 r13 (u3 + u5) M fun M16 =>
        kc7 (M16, (x6 + (J (-1)))))))
def BX8_relieve_7 (K : Int32 → Mem → Prop) (u0 : Nat) (u1 : Nat) (u2 : Nat) (u3 : Int32) (u4 : Int32) (u5 : Int32) (kc7 : (Mem × Int32) → Prop) (s : (Mem × Int32)) : Prop := CX8_relieve_7 K u0 u1 u2 u3 u4 u5 kc7 s.1 s.2
def PX8_relieve (a0 : Nat) (a1 : Nat) (a2 : Nat) (x3 : Int32) (x4 : Int32) (x5 : Int32) (M : Mem) (K : Int32 → Mem → Prop) : Prop :=
tS M 9 a0 (
  PX6_amount a1 x3 M fun r1 =>
  lp (BX8_relieve_7 K a0 a1 a2 x3 x4 x5) (M, r1))
theorem tX8_relieve {a0 : Nat} {a1 : Nat} {a2 : Nat} {x3 : Int32} {x4 : Int32} {x5 : Int32} {M : Mem} {K : Int32 → Mem → Prop} (h : PX8_relieve a0 a1 a2 x3 x4 x5 M K) : (M.1 a0).1 = 9 := h.1
def CX8_pushAway_7 (K : Int32 → Mem → Prop) (u0 : Nat) (u1 : Nat) (u2 : Nat) (u3 : Int32) (u5 : Int32) (kc7 : (Mem × Int32 × Int32) → Prop) (M : Mem) (x6 : Int32) (x7 : Int32) : Prop :=
  xbr ((J 8) ≤ x7) (
    isB (J 1) ∧ K (J 1) M) (
    ∃ y2 : Int32, y2 = (u3 + (x7 * u5)) ∧
    PX10_isShelf y2 M fun r3 =>
    xbr (r3 = (J 0)) (
      isB (J 1) ∧ K (J 1) M) (
      PX8_relieve u0 u1 u2 y2 x6 u5 M fun r6 M7 =>
      xbr (r6 = (J 0)) (
        isB (J 0) ∧ K (J 0) M7) (
        kc7 (M7, (J 0), (x7 + (J 1))))))
def BX8_pushAway_7 (K : Int32 → Mem → Prop) (u0 : Nat) (u1 : Nat) (u2 : Nat) (u3 : Int32) (u5 : Int32) (kc7 : (Mem × Int32 × Int32) → Prop) (s : (Mem × Int32 × Int32)) : Prop := CX8_pushAway_7 K u0 u1 u2 u3 u5 kc7 s.1 s.2.1 s.2.2
def PX8_pushAway (a0 : Nat) (a1 : Nat) (a2 : Nat) (x3 : Int32) (x4 : Int32) (x5 : Int32) (M : Mem) (K : Int32 → Mem → Prop) : Prop :=
tS M 9 a0 (
  lp (BX8_pushAway_7 K a0 a1 a2 x3 x5) (M, x4, (J 0)))
theorem tX8_pushAway {a0 : Nat} {a1 : Nat} {a2 : Nat} {x3 : Int32} {x4 : Int32} {x5 : Int32} {M : Mem} {K : Int32 → Mem → Prop} (h : PX8_pushAway a0 a1 a2 x3 x4 x5 M K) : (M.1 a0).1 = 9 := h.1
def PX8_putBy (a0 : Nat) (a1 : Nat) (a2 : Nat) (x3 : Int32) (x4 : Int32) (M : Mem) (K : Int32 → Mem → Prop) : Prop :=
tS M 9 a0 (
  PX6_spotFor a1 a2 x3 x4 M fun r1 =>
  PX6_shelfAtSpot a1 r1 M fun r3 =>
  PX6_insert a1 r1 x3 r3 M fun M6 =>
  PX8_pushAway a0 a1 a2 r3 (J 0) (J 1) M6 fun r7 M8 =>
  isB r7 ∧ K r7 M8)
theorem tX8_putBy {a0 : Nat} {a1 : Nat} {a2 : Nat} {x3 : Int32} {x4 : Int32} {M : Mem} {K : Int32 → Mem → Prop} (h : PX8_putBy a0 a1 a2 x3 x4 M K) : (M.1 a0).1 = 9 := h.1
def JX8_firstThatTakes_47 (K : Int32 → Prop) (kc4 : Int32 → Prop) (M : Mem) (u0 : Nat) (u1 : Nat) (u2 : Nat) (u3 : Int32) (u5 : Int32) (j6 : Int32) (s0 : Int32) (s1 : Int32) : Prop :=
  xbr (s1 < s0) (
    kc4 (j6 + (J 1))) (
    K j6)
def CX8_firstThatTakes_4 (K : Int32 → Prop) (M : Mem) (u0 : Nat) (u1 : Nat) (u2 : Nat) (u3 : Int32) (u5 : Int32) (kc4 : Int32 → Prop) (x6 : Int32) : Prop :=
  xbr ((J 8) ≤ x6) (
    K (J 8)) (
    PX8_left u0 u1 u2 x6 M fun r2 =>
    PX2_of u2 u3 M fun q4 =>
    gI M 1 q4 11 fun v6 =>
    ∃ y7 : Int32, y7 = (r2 - v6) ∧
    PX6_amount u1 x6 M fun r8 =>
    xbr (r8 = (J 0)) (
      JX8_firstThatTakes_47 K kc4 M u0 u1 u2 u3 u5 x6 (J 0) y7) (
      JX8_firstThatTakes_47 K kc4 M u0 u1 u2 u3 u5 x6 u5 y7))
def BX8_firstThatTakes_4 (K : Int32 → Prop) (M : Mem) (u0 : Nat) (u1 : Nat) (u2 : Nat) (u3 : Int32) (u5 : Int32) (kc4 : Int32 → Prop) (s : Int32) : Prop := CX8_firstThatTakes_4 K M u0 u1 u2 u3 u5 kc4 s
def PX8_firstThatTakes (a0 : Nat) (a1 : Nat) (a2 : Nat) (x3 : Int32) (x4 : Int32) (x5 : Int32) (M : Mem) (K : Int32 → Prop) : Prop :=
tS M 9 a0 (
  lp (BX8_firstThatTakes_4 K M a0 a1 a2 x3 x5) x4)
theorem tX8_firstThatTakes {a0 : Nat} {a1 : Nat} {a2 : Nat} {x3 : Int32} {x4 : Int32} {x5 : Int32} {M : Mem} {K : Int32 → Prop} (h : PX8_firstThatTakes a0 a1 a2 x3 x4 x5 M K) : (M.1 a0).1 = 9 := h.1
def CX8_layAnew_53 (K : Int32 → Mem → Prop) (u0 : Nat) (u1 : Nat) (u3 : Nat) (u4 : Int32) (kc53 : (Mem × Int32 × Int32) → Prop) (M : Mem) (x5 : Int32) (x6 : Int32) : Prop :=
  PX6_size u1 M fun r6 =>
  xbr (r6 ≤ x6) (
    isB (J 1) ∧ K (J 1) M) (
    PX6_bookAt u1 x6 M fun r9 =>
    PX8_firstThatTakes u0 u1 u3 r9 x5 u4 M fun r11 =>
    PX10_isShelf r11 M fun r13 =>
    xbr (r13 = (J 0)) (
      isB (J 0) ∧ K (J 0) M) (
      PX6_pass u1 r9 r11 M fun M17 =>
      kc53 (M17, r11, (x6 + (J 1)))))
def BX8_layAnew_53 (K : Int32 → Mem → Prop) (u0 : Nat) (u1 : Nat) (u3 : Nat) (u4 : Int32) (kc53 : (Mem × Int32 × Int32) → Prop) (s : (Mem × Int32 × Int32)) : Prop := CX8_layAnew_53 K u0 u1 u3 u4 kc53 s.1 s.2.1 s.2.2
def CX8_layAnew_7 (K : Int32 → Mem → Prop) (u0 : Nat) (u1 : Nat) (u2 : Nat) (u3 : Nat) (u4 : Int32) (kc7 : (Mem × Int32) → Prop) (M : Mem) (x5 : Int32) : Prop :=
  PX2_size u3 M fun r3 =>
  xbr (r3 ≤ x5) (
    lp (BX8_layAnew_53 K u0 u1 u3 u4) (M, (J 0), (J 0))) (
    PX6_stands u2 x5 M fun r18 =>
    xbr (r18 = (J 0)) (
      kc7 (M, (x5 + (J 1)))) (
      PX6_spotFor u1 u3 x5 (J 0) M fun r21 =>
      PX6_insert u1 r21 x5 (J 8) M fun M24 =>
      kc7 (M24, (x5 + (J 1)))))
def BX8_layAnew_7 (K : Int32 → Mem → Prop) (u0 : Nat) (u1 : Nat) (u2 : Nat) (u3 : Nat) (u4 : Int32) (kc7 : (Mem × Int32) → Prop) (s : (Mem × Int32)) : Prop := CX8_layAnew_7 K u0 u1 u2 u3 u4 kc7 s.1 s.2
def PX8_layAnew (a0 : Nat) (a1 : Nat) (a2 : Nat) (a3 : Nat) (x4 : Int32) (M : Mem) (K : Int32 → Mem → Prop) : Prop :=
tS M 9 a0 (
  PX6_clear a1 M fun M2 =>
  lp (BX8_layAnew_7 K a0 a1 a2 a3 x4) (M2, (J 0)))
theorem tX8_layAnew {a0 : Nat} {a1 : Nat} {a2 : Nat} {a3 : Nat} {x4 : Int32} {M : Mem} {K : Int32 → Mem → Prop} (h : PX8_layAnew a0 a1 a2 a3 x4 M K) : (M.1 a0).1 = 9 := h.1
def PX9_init (a0 : Nat) (M : Mem) (K : Mem → Prop) : Prop :=
tS M 10 a0 (
  nA M 100 (defaultValue .int) (J 24) 24 fun q1 M2 =>
  pF M2 10 a0 0 (.ref q1) fun M3 =>
  K M3)
theorem tX9_init {a0 : Nat} {M : Mem} {K : Mem → Prop} (h : PX9_init a0 M K) : (M.1 a0).1 = 10 := h.1
def CX9_measureChains_24 (K : Int32 → Mem → Prop) (kc10 : (Mem × Int32 × Int32) → Prop) (M : Mem) (u0 : Nat) (u1 : Nat) (u2 : Nat) (u3 : Int32) (u4 : Int32) (kc24 : (Int32 × Int32) → Prop) (x5 : Int32) (x6 : Int32) : Prop :=
  PX6_size u1 M fun r6 =>
  xbr (r6 ≤ x6) (
    gR M 10 u0 0 fun q9 =>
    PX10_write q9 u4 (x5 + (J 1)) M fun M11 =>
    ∃ y12 : Int32, y12 = (if u3 < (x5 + (J 1)) then (x5 + (J 1)) else u3) ∧
    kc10 (M11, y12, (u4 + (J (-1))))) (
    PX6_bookAt u1 u4 M fun r13 =>
    PX6_bookAt u1 x6 M fun r15 =>
    PX2_isAhead u2 r13 r15 (J 0) M fun r17 =>
    xbr (r17 = (J 0)) (
      kc24 (x5, (x6 + (J 1)))) (
      gR M 10 u0 0 fun q20 =>
      PX10_entry q20 x6 M fun r21 =>
      ∃ y23 : Int32, y23 = (if x5 < r21 then r21 else x5) ∧
      kc24 (y23, (x6 + (J 1)))))
def BX9_measureChains_24 (K : Int32 → Mem → Prop) (kc10 : (Mem × Int32 × Int32) → Prop) (M : Mem) (u0 : Nat) (u1 : Nat) (u2 : Nat) (u3 : Int32) (u4 : Int32) (kc24 : (Int32 × Int32) → Prop) (s : (Int32 × Int32)) : Prop := CX9_measureChains_24 K kc10 M u0 u1 u2 u3 u4 kc24 s.1 s.2
def CX9_measureChains_10 (K : Int32 → Mem → Prop) (u0 : Nat) (u1 : Nat) (u2 : Nat) (kc10 : (Mem × Int32 × Int32) → Prop) (M : Mem) (x3 : Int32) (x4 : Int32) : Prop :=
  xbr (x4 < (J 0)) (
    K x3 M) (
    ∃ y5 : Int32, y5 = (x4 + (J 1)) ∧
    lp (BX9_measureChains_24 K kc10 M u0 u1 u2 x3 x4) ((J 0), y5))
def BX9_measureChains_10 (K : Int32 → Mem → Prop) (u0 : Nat) (u1 : Nat) (u2 : Nat) (kc10 : (Mem × Int32 × Int32) → Prop) (s : (Mem × Int32 × Int32)) : Prop := CX9_measureChains_10 K u0 u1 u2 kc10 s.1 s.2.1 s.2.2
def PX9_measureChains (a0 : Nat) (a1 : Nat) (a2 : Nat) (M : Mem) (K : Int32 → Mem → Prop) : Prop :=
tS M 10 a0 (
  PX6_size a1 M fun r1 =>
  ∃ y3 : Int32, y3 = (r1 - (J 1)) ∧
  lp (BX9_measureChains_10 K a0 a1 a2) (M, (J 0), y3))
theorem tX9_measureChains {a0 : Nat} {a1 : Nat} {a2 : Nat} {M : Mem} {K : Int32 → Mem → Prop} (h : PX9_measureChains a0 a1 a2 M K) : (M.1 a0).1 = 10 := h.1
def JX9_outOfPlace_74 (K : Int32 → Mem → Prop) (kc16 : (Int32 × Int32 × Int32 × Int32) → Prop) (M : Mem) (u0 : Nat) (u1 : Nat) (u2 : Nat) (j3 : Int32) (j4 : Int32) (j5 : Int32) (j6 : Int32) (j7 : Int32) : Prop :=
  ∃ y12 : Int32, y12 = (j5 ||| ((J 1) <<< (j7 &&& 31))) ∧
  kc16 (j3, j4, y12, (j6 + (J 1)))
def CX9_outOfPlace_16 (K : Int32 → Mem → Prop) (M : Mem) (u0 : Nat) (u1 : Nat) (u2 : Nat) (kc16 : (Int32 × Int32 × Int32 × Int32) → Prop) (x3 : Int32) (x4 : Int32) (x5 : Int32) (x6 : Int32) : Prop :=
  PX6_size u1 M fun r3 =>
  xbr (r3 ≤ x6) (
    K x5 M) (
    PX6_bookAt u1 x6 M fun r6 =>
    gR M 10 u0 0 fun q8 =>
    PX10_entry q8 x6 M fun r9 =>
    xbr (r9 = x3) (
      xbr (x4 = (J (-1))) (
        kc16 ((x3 + (J (-1))), r6, x5, (x6 + (J 1)))) (
        PX2_isAhead u2 x4 r6 (J 0) M fun r14 =>
        xbr (r14 = (J 0)) (
          JX9_outOfPlace_74 K kc16 M u0 u1 u2 x3 x4 x5 x6 r6) (
          kc16 ((x3 + (J (-1))), r6, x5, (x6 + (J 1)))))) (
      JX9_outOfPlace_74 K kc16 M u0 u1 u2 x3 x4 x5 x6 r6))
def BX9_outOfPlace_16 (K : Int32 → Mem → Prop) (M : Mem) (u0 : Nat) (u1 : Nat) (u2 : Nat) (kc16 : (Int32 × Int32 × Int32 × Int32) → Prop) (s : (Int32 × Int32 × Int32 × Int32)) : Prop := CX9_outOfPlace_16 K M u0 u1 u2 kc16 s.1 s.2.1 s.2.2.1 s.2.2.2
def PX9_outOfPlace (a0 : Nat) (a1 : Nat) (a2 : Nat) (M : Mem) (K : Int32 → Mem → Prop) : Prop :=
tS M 10 a0 (
  PX9_measureChains a0 a1 a2 M fun r1 M2 =>
  lp (BX9_outOfPlace_16 K M2 a0 a1 a2) (r1, (J (-1)), (J 0), (J 0)))
theorem tX9_outOfPlace {a0 : Nat} {a1 : Nat} {a2 : Nat} {M : Mem} {K : Int32 → Mem → Prop} (h : PX9_outOfPlace a0 a1 a2 M K) : (M.1 a0).1 = 10 := h.1
def CX9_pairs_20 (K : Int32 → Prop) (kc5 : (Int32 × Int32) → Prop) (M : Mem) (u1 : Nat) (u2 : Nat) (u4 : Int32) (kc20 : (Int32 × Int32) → Prop) (x3 : Int32) (x5 : Int32) : Prop :=
  PX6_size u1 M fun r5 =>
  xbr (r5 ≤ x5) (
    kc5 (x3, (u4 + (J 1)))) (
    PX6_bookAt u1 u4 M fun r8 =>
    PX6_bookAt u1 x5 M fun r10 =>
    PX2_isAhead u2 r8 r10 (J 0) M fun r12 =>
    xbr (r12 = (J 0)) (
      kc20 ((x3 + (J 1)), (x5 + (J 1)))) (
      kc20 (x3, (x5 + (J 1)))))
def BX9_pairs_20 (K : Int32 → Prop) (kc5 : (Int32 × Int32) → Prop) (M : Mem) (u1 : Nat) (u2 : Nat) (u4 : Int32) (kc20 : (Int32 × Int32) → Prop) (s : (Int32 × Int32)) : Prop := CX9_pairs_20 K kc5 M u1 u2 u4 kc20 s.1 s.2
def CX9_pairs_5 (K : Int32 → Prop) (M : Mem) (u1 : Nat) (u2 : Nat) (kc5 : (Int32 × Int32) → Prop) (x3 : Int32) (x4 : Int32) : Prop :=
  PX6_size u1 M fun r1 =>
  xbr (r1 ≤ x4) (
    K x3) (
    ∃ y4 : Int32, y4 = (x4 + (J 1)) ∧
    lp (BX9_pairs_20 K kc5 M u1 u2 x4) (x3, y4))
def BX9_pairs_5 (K : Int32 → Prop) (M : Mem) (u1 : Nat) (u2 : Nat) (kc5 : (Int32 × Int32) → Prop) (s : (Int32 × Int32)) : Prop := CX9_pairs_5 K M u1 u2 kc5 s.1 s.2
def PX9_pairs (a0 : Nat) (a1 : Nat) (a2 : Nat) (M : Mem) (K : Int32 → Prop) : Prop :=
tS M 10 a0 (
  lp (BX9_pairs_5 K M a1 a2) ((J 0), (J 0)))
theorem tX9_pairs {a0 : Nat} {a1 : Nat} {a2 : Nat} {M : Mem} {K : Int32 → Prop} (h : PX9_pairs a0 a1 a2 M K) : (M.1 a0).1 = 10 := h.1
def CX9_firstWrong_2 (K : Int32 → Prop) (M : Mem) (u1 : Nat) (u2 : Nat) (kc2 : Int32 → Prop) (x3 : Int32) : Prop :=
  PX6_size u1 M fun r1 =>
  xbr (r1 ≤ (x3 + (J 1))) (
    K (J (-1))) (
    PX6_bookAt u1 x3 M fun r4 =>
    PX6_bookAt u1 (x3 + (J 1)) M fun r6 =>
    PX2_isAhead u2 r4 r6 (J 0) M fun r8 =>
    xbr (r8 = (J 0)) (
      PX6_bookAt u1 x3 M fun r11 =>
      K r11) (
      kc2 (x3 + (J 1))))
def BX9_firstWrong_2 (K : Int32 → Prop) (M : Mem) (u1 : Nat) (u2 : Nat) (kc2 : Int32 → Prop) (s : Int32) : Prop := CX9_firstWrong_2 K M u1 u2 kc2 s
def PX9_firstWrong (a0 : Nat) (a1 : Nat) (a2 : Nat) (M : Mem) (K : Int32 → Prop) : Prop :=
tS M 10 a0 (
  lp (BX9_firstWrong_2 K M a1 a2) (J 0))
theorem tX9_firstWrong {a0 : Nat} {a1 : Nat} {a2 : Nat} {M : Mem} {K : Int32 → Prop} (h : PX9_firstWrong a0 a1 a2 M K) : (M.1 a0).1 = 10 := h.1
def PX10_isIn (x0 : Int32) (x1 : Int32) (M : Mem) (K : Int32 → Prop) : Prop :=
  xbr (x1 < (J 0)) (
    isB (J 0) ∧ K (J 0)) (
    xbr ((J 24) ≤ x1) (
      isB (J 0) ∧ K (J 0)) (
      xbr ((x0 &&& ((J 1) <<< (x1 &&& 31))) = (J 0)) (
        isB (J 0) ∧ K (J 0)) (
        isB (J 1) ∧ K (J 1))))
def JX9_standsRight_65 (K : Int32 → Prop) (kc10 : Int32 → Prop) (M : Mem) (u1 : Nat) (u2 : Nat) (u3 : Int32) (u4 : Int32) (u5 : Int32) (u6 : Int32) (j7 : Int32) (s0 : Int32) (s1 : Int32) : Prop :=
  xbr (s1 = s0) (
    kc10 (j7 + (J 1))) (
    isB (J 0) ∧ K (J 0))
def CX9_standsRight_10 (K : Int32 → Prop) (M : Mem) (u1 : Nat) (u2 : Nat) (u3 : Int32) (u4 : Int32) (u5 : Int32) (u6 : Int32) (kc10 : Int32 → Prop) (x7 : Int32) : Prop :=
  PX6_size u1 M fun r3 =>
  xbr (r3 ≤ x7) (
    isB (J 1) ∧ K (J 1)) (
    PX6_bookAt u1 x7 M fun r6 =>
    xbr (x7 = u6) (
      kc10 (x7 + (J 1))) (
      PX10_isIn u5 r6 M fun r9 =>
      xbr (r9 = (J 0)) (
        PX2_isAhead u2 r6 u3 u4 M fun r12 =>
        xbr (u6 ≤ x7) (
          JX9_standsRight_65 K kc10 M u1 u2 u3 u4 u5 u6 x7 (J 0) r12) (
          JX9_standsRight_65 K kc10 M u1 u2 u3 u4 u5 u6 x7 (J 1) r12)) (
        kc10 (x7 + (J 1)))))
def BX9_standsRight_10 (K : Int32 → Prop) (M : Mem) (u1 : Nat) (u2 : Nat) (u3 : Int32) (u4 : Int32) (u5 : Int32) (u6 : Int32) (kc10 : Int32 → Prop) (s : Int32) : Prop := CX9_standsRight_10 K M u1 u2 u3 u4 u5 u6 kc10 s
def PX9_standsRight (a0 : Nat) (a1 : Nat) (a2 : Nat) (x3 : Int32) (x4 : Int32) (x5 : Int32) (M : Mem) (K : Int32 → Prop) : Prop :=
tS M 10 a0 (
  PX6_indexOf a1 x3 M fun r1 =>
  lp (BX9_standsRight_10 K M a1 a2 x3 x4 x5 r1) (J 0))
theorem tX9_standsRight {a0 : Nat} {a1 : Nat} {a2 : Nat} {x3 : Int32} {x4 : Int32} {x5 : Int32} {M : Mem} {K : Int32 → Prop} (h : PX9_standsRight a0 a1 a2 x3 x4 x5 M K) : (M.1 a0).1 = 10 := h.1
def CX9_readingOf_11 (K : Int32 → Mem → Prop) (M : Mem) (u0 : Nat) (u1 : Nat) (u2 : Nat) (u3 : Int32) (u4 : Int32) (kc11 : Int32 → Prop) (x5 : Int32) : Prop :=
  xbr ((J 5) ≤ x5) (
    K (J (-1)) M) (
    PX9_standsRight u0 u1 u2 u3 x5 u4 M fun r4 =>
    xbr (r4 = (J 0)) (
      kc11 (x5 + (J 1))) (
      K x5 M))
def BX9_readingOf_11 (K : Int32 → Mem → Prop) (M : Mem) (u0 : Nat) (u1 : Nat) (u2 : Nat) (u3 : Int32) (u4 : Int32) (kc11 : Int32 → Prop) (s : Int32) : Prop := CX9_readingOf_11 K M u0 u1 u2 u3 u4 kc11 s
def PX9_readingOf (a0 : Nat) (a1 : Nat) (a2 : Nat) (x3 : Int32) (M : Mem) (K : Int32 → Mem → Prop) : Prop :=
tS M 10 a0 (
  PX9_outOfPlace a0 a1 a2 M fun r1 M2 =>
  lp (BX9_readingOf_11 K M2 a0 a1 a2 x3 r1) (J 0))
theorem tX9_readingOf {a0 : Nat} {a1 : Nat} {a2 : Nat} {x3 : Int32} {M : Mem} {K : Int32 → Mem → Prop} (h : PX9_readingOf a0 a1 a2 x3 M K) : (M.1 a0).1 = 10 := h.1
def PX10_init (a0 : Nat) (M : Mem) (K : Mem → Prop) : Prop :=
tS M 11 a0 (
  nO M 2 2 tyX1 fun q1 M2 =>
  PX1_init q1 (J 600) M2 fun M4 =>
  pF M4 11 a0 0 (.ref q1) fun M5 =>
  nO M5 3 4 tyX2 fun q6 M7 =>
  PX2_init q6 M7 fun M9 =>
  pF M9 11 a0 1 (.ref q6) fun M10 =>
  nO M10 9 1 tyX8 fun q11 M12 =>
  PX8_init q11 M12 fun M14 =>
  pF M14 11 a0 2 (.ref q11) fun M15 =>
  nO M15 7 3 tyX6 fun q16 M17 =>
  PX6_init q16 M17 fun M19 =>
  pF M19 11 a0 3 (.ref q16) fun M20 =>
  nO M20 7 3 tyX6 fun q21 M22 =>
  PX6_init q21 M22 fun M24 =>
  pF M24 11 a0 4 (.ref q21) fun M25 =>
  nO M25 10 1 tyX9 fun q26 M27 =>
  PX9_init q26 M27 fun M29 =>
  pF M29 11 a0 5 (.ref q26) fun M30 =>
  nO M30 4 1 tyX3 fun q31 M32 =>
  PX3_init q31 M32 fun M34 =>
  pF M34 11 a0 6 (.ref q31) fun M35 =>
  nO M35 8 5 tyX7 fun q36 M37 =>
  PX7_init q36 M37 fun M39 =>
  pF M39 11 a0 7 (.ref q36) fun M40 =>
  nO M40 5 4 tyX4 fun q41 M42 =>
  PX4_init q41 M42 fun M44 =>
  pF M44 11 a0 8 (.ref q41) fun M45 =>
  nO M45 5 4 tyX4 fun q46 M47 =>
  PX4_init q46 M47 fun M49 =>
  pF M49 11 a0 9 (.ref q46) fun M50 =>
  pF M50 11 a0 10 (.int (J (-1))) fun M51 =>
  pF M51 11 a0 11 (.int (J 0)) fun M52 =>
  pF M52 11 a0 12 (.int (J 0)) fun M53 =>
  K M53)
theorem tX10_init {a0 : Nat} {M : Mem} {K : Mem → Prop} (h : PX10_init a0 M K) : (M.1 a0).1 = 11 := h.1
def CX10_feed_39 (K : Int32 → Mem → Prop) (u0 : Nat) (u2 : Int64) (kc39 : (Mem × Int32) → Prop) (M : Mem) (x4 : Int32) : Prop :=
  xbr (x4 < (J 0)) (
    gR M 11 u0 0 fun q9 =>
    PX1_size q9 M fun r10 =>
    K r10 M) (
    gR M 11 u0 0 fun q12 =>
    PX1_append q12 (((u2.toUInt64 >>> (((J 8) * x4).toInt64.toUInt64 &&& Int64.toUInt64 63)).toInt64) &&& (LJ 255)).toInt32 M fun M14 =>
    kc39 (M14, (x4 + (J (-1)))))
def BX10_feed_39 (K : Int32 → Mem → Prop) (u0 : Nat) (u2 : Int64) (kc39 : (Mem × Int32) → Prop) (s : (Mem × Int32)) : Prop := CX10_feed_39 K u0 u2 kc39 s.1 s.2
def PX10_feed (a0 : Nat) (x1 : Int32) (x2 : Int64) (M : Mem) (K : Int32 → Mem → Prop) : Prop :=
tS M 11 a0 (
  xbr (x1 < (J 1)) (
    K (J (-1002)) M) (
    xbr (x1 ≤ (J 8)) (
      gR M 11 a0 0 fun q3 =>
      PX1_size q3 M fun r4 =>
      xbr ((r4 + x1) ≤ (J 600)) (
        ∃ y7 : Int32, y7 = (x1 - (J 1)) ∧
        lp (BX10_feed_39 K a0 x2) (M, y7)) (
        K (J (-1004)) M)) (
      K (J (-1002)) M)))
theorem tX10_feed {a0 : Nat} {x1 : Int32} {x2 : Int64} {M : Mem} {K : Int32 → Mem → Prop} (h : PX10_feed a0 x1 x2 M K) : (M.1 a0).1 = 11 := h.1
def JX10_books_50 (K : Int32 → Mem → Prop) (M : Mem) (j0 : Nat) (j2 : Int32) : Prop :=
  gR M 11 j0 0 fun q16 =>
  PX1_clear q16 M fun M18 =>
  xbr (j2 = (J 0)) (
    gR M18 11 j0 1 fun q20 =>
    PX2_size q20 M18 fun r21 =>
    K r21 M18) (
    K ((J (-10)) - j2) M18)
def PX10_books (a0 : Nat) (M : Mem) (K : Int32 → Mem → Prop) : Prop :=
tS M 11 a0 (
  nO M 6 8 tyX5 fun q1 M2 =>
  gR M2 11 a0 0 fun q3 =>
  gR M2 11 a0 1 fun q4 =>
  PX5_init q1 q3 q4 M2 fun M6 =>
  PX5_parse q1 M6 fun r7 M8 =>
  PX5_faultAt q1 M8 fun r9 =>
  pF M8 11 a0 10 (.int r9) fun M11 =>
  xbr (r7 = (J 0)) (
    gR M11 11 a0 1 fun q23 =>
    PX2_acceptDrafts q23 M11 fun M25 =>
    JX10_books_50 K M25 a0 r7) (
    gR M11 11 a0 1 fun q13 =>
    PX2_dropDrafts q13 M11 fun M15 =>
    JX10_books_50 K M15 a0 r7))
theorem tX10_books {a0 : Nat} {M : Mem} {K : Int32 → Mem → Prop} (h : PX10_books a0 M K) : (M.1 a0).1 = 11 := h.1
def PX10_fault (a0 : Nat) (M : Mem) (K : Int32 → Prop) : Prop :=
tS M 11 a0 (
  gI M 11 a0 10 fun v1 =>
  K v1)
theorem tX10_fault {a0 : Nat} {M : Mem} {K : Int32 → Prop} (h : PX10_fault a0 M K) : (M.1 a0).1 = 11 := h.1
def PX10_book (a0 : Nat) (x1 : Int32) (x2 : Int32) (M : Mem) (K : Int32 → Prop) : Prop :=
tS M 11 a0 (
  gR M 11 a0 1 fun q1 =>
  PX2_has q1 x1 M fun r2 =>
  xbr (r2 = (J 0)) (
    K (J (-1001))) (
    xbr (x2 = (J 0)) (
      gR M 11 a0 1 fun q6 =>
      PX2_of q6 x1 M fun q7 =>
      gI M 1 q7 3 fun v9 =>
      K v9) (
    xbr (x2 = (J 1)) (
      gR M 11 a0 1 fun q11 =>
      PX2_of q11 x1 M fun q12 =>
      gI M 1 q12 10 fun v14 =>
      K v14) (
    xbr (x2 = (J 2)) (
      gR M 11 a0 1 fun q16 =>
      PX2_of q16 x1 M fun q17 =>
      gI M 1 q17 11 fun v19 =>
      K v19) (
    xbr (x2 = (J 3)) (
      gR M 11 a0 3 fun q21 =>
      PX6_shelfOf q21 x1 M fun r22 =>
      K r22) (
    xbr (x2 = (J 4)) (
      gR M 11 a0 3 fun q25 =>
      PX6_stands q25 x1 M fun r26 =>
      xbr (r26 = (J 0)) (
        K (J (-1))) (
        gR M 11 a0 3 fun q29 =>
        PX6_indexOf q29 x1 M fun r30 =>
        gR M 11 a0 3 fun q32 =>
        gR M 11 a0 3 fun q33 =>
        PX6_shelfOf q33 x1 M fun r34 =>
        PX6_start q32 r34 M fun r36 =>
        K (r30 - r36))) (
    K (J (-1002)))))))))
theorem tX10_book {a0 : Nat} {x1 : Int32} {x2 : Int32} {M : Mem} {K : Int32 → Prop} (h : PX10_book a0 x1 x2 M K) : (M.1 a0).1 = 11 := h.1
def PX10_mark (a0 : Nat) (x1 : Int32) (x2 : Int32) (M : Mem) (K : Int32 → Prop) : Prop :=
tS M 11 a0 (
  gR M 11 a0 1 fun q1 =>
  PX2_has q1 x1 M fun r2 =>
  xbr (r2 = (J 0)) (
    K (J (-1001))) (
    gR M 11 a0 1 fun q5 =>
    PX2_of q5 x1 M fun q6 =>
    gR M 1 q6 0 fun q8 =>
    xbr (x2 = (J (-1))) (
      PX1_size q8 M fun r12 =>
      K r12) (
      PX1_get q8 x2 M fun r10 =>
      K r10)))
theorem tX10_mark {a0 : Nat} {x1 : Int32} {x2 : Int32} {M : Mem} {K : Int32 → Prop} (h : PX10_mark a0 x1 x2 M K) : (M.1 a0).1 = 11 := h.1
def PX10_isReading (x0 : Int32) (M : Mem) (K : Int32 → Prop) : Prop :=
  xbr (x0 < (J 0)) (
    isB (J 0) ∧ K (J 0)) (
    xbr ((J 5) ≤ x0) (
      isB (J 0) ∧ K (J 0)) (
      isB (J 1) ∧ K (J 1)))
def PX10_ahead (a0 : Nat) (x1 : Int32) (x2 : Int32) (x3 : Int32) (M : Mem) (K : Int32 → Prop) : Prop :=
tS M 11 a0 (
  gR M 11 a0 1 fun q1 =>
  PX2_has q1 x1 M fun r2 =>
  xbr (r2 = (J 0)) (
    K (J (-1001))) (
    gR M 11 a0 1 fun q5 =>
    PX2_has q5 x2 M fun r6 =>
    xbr (r6 = (J 0)) (
      K (J (-1001))) (
      PX10_isReading x3 M fun r9 =>
      xbr (r9 = (J 0)) (
        K (J (-1001))) (
        gR M 11 a0 1 fun q12 =>
        PX2_isAhead q12 x1 x2 x3 M fun r13 =>
        xbr (r13 = (J 0)) (
          K (J 0)) (
          K (J 1))))))
theorem tX10_ahead {a0 : Nat} {x1 : Int32} {x2 : Int32} {x3 : Int32} {M : Mem} {K : Int32 → Prop} (h : PX10_ahead a0 x1 x2 x3 M K) : (M.1 a0).1 = 11 := h.1
def CX10_order_20 (K : Int32 → Mem → Prop) (u0 : Nat) (u1 : Int32) (u2 : Int32) (kc20 : (Mem × Int32) → Prop) (M : Mem) (x3 : Int32) : Prop :=
  gR M 11 u0 1 fun q7 =>
  PX2_size q7 M fun r8 =>
  xbr (r8 ≤ x3) (
    gR M 11 u0 4 fun q11 =>
    PX6_bookAt q11 u2 M fun r12 =>
    K r12 M) (
    gR M 11 u0 4 fun q14 =>
    gR M 11 u0 4 fun q15 =>
    gR M 11 u0 1 fun q16 =>
    PX6_spotFor q15 q16 x3 u1 M fun r17 =>
    PX6_insert q14 r17 x3 (J 0) M fun M20 =>
    kc20 (M20, (x3 + (J 1))))
def BX10_order_20 (K : Int32 → Mem → Prop) (u0 : Nat) (u1 : Int32) (u2 : Int32) (kc20 : (Mem × Int32) → Prop) (s : (Mem × Int32)) : Prop := CX10_order_20 K u0 u1 u2 kc20 s.1 s.2
def PX10_order (a0 : Nat) (x1 : Int32) (x2 : Int32) (M : Mem) (K : Int32 → Mem → Prop) : Prop :=
tS M 11 a0 (
  PX10_isReading x1 M fun r1 =>
  xbr (r1 = (J 0)) (
    K (J (-1001)) M) (
    gR M 11 a0 4 fun q4 =>
    PX6_clear q4 M fun M6 =>
    lp (BX10_order_20 K a0 x1 x2) (M6, (J 0))))
theorem tX10_order {a0 : Nat} {x1 : Int32} {x2 : Int32} {M : Mem} {K : Int32 → Mem → Prop} (h : PX10_order a0 x1 x2 M K) : (M.1 a0).1 = 11 := h.1
def PJ6_bitCount_0f7a4 (x0 : Int32) (M : Mem) (K : Int32 → Prop) : Prop :=
  ∃ y1 : Int32, y1 = (x0 - (((x0.toUInt32 >>> ((J 1).toUInt32 &&& Int32.toUInt32 31)).toInt32) &&& (J 1431655765))) ∧
  ∃ y2 : Int32, y2 = ((y1 &&& (J 858993459)) + (((y1.toUInt32 >>> ((J 2).toUInt32 &&& Int32.toUInt32 31)).toInt32) &&& (J 858993459))) ∧
  ∃ y3 : Int32, y3 = ((y2 + ((y2.toUInt32 >>> ((J 4).toUInt32 &&& Int32.toUInt32 31)).toInt32)) &&& (J 252645135)) ∧
  ∃ y4 : Int32, y4 = (y3 + ((y3.toUInt32 >>> ((J 8).toUInt32 &&& Int32.toUInt32 31)).toInt32)) ∧
  ∃ y5 : Int32, y5 = (y4 + ((y4.toUInt32 >>> ((J 16).toUInt32 &&& Int32.toUInt32 31)).toInt32)) ∧
  K (y5 &&& (J 63))
def PX10_count (a0 : Nat) (x1 : Int32) (M : Mem) (K : Int32 → Prop) : Prop :=
tS M 11 a0 (
  xbr (x1 = (J 0)) (
    gR M 11 a0 1 fun q2 =>
    PX2_size q2 M fun r3 =>
    K r3) (
  xbr (x1 = (J 1)) (
    gR M 11 a0 3 fun q6 =>
    PX6_size q6 M fun r7 =>
    K r7) (
  xbr (x1 = (J 2)) (
    gR M 11 a0 0 fun q10 =>
    PX1_size q10 M fun r11 =>
    K r11) (
  xbr (x1 = (J 3)) (
    gI M 11 a0 11 fun v14 =>
    PJ6_bitCount_0f7a4 v14 M fun r15 =>
    K r15) (
  K (J (-1002)))))))
theorem tX10_count {a0 : Nat} {x1 : Int32} {M : Mem} {K : Int32 → Prop} (h : PX10_count a0 x1 M K) : (M.1 a0).1 = 11 := h.1
def PX10_width (a0 : Nat) (x1 : Int32) (x2 : Int32) (M : Mem) (K : Int32 → Mem → Prop) : Prop :=
tS M 11 a0 (
  PX10_isShelf x1 M fun r1 =>
  xbr (r1 = (J 0)) (
    K (J (-1001)) M) (
    xbr (x2 < (J 1)) (
      K (J (-1002)) M) (
      xbr (x2 ≤ (J 60)) (
        gR M 11 a0 2 fun q6 =>
        PX8_widthOf q6 x1 M fun r7 =>
        gR M 11 a0 2 fun q9 =>
        gR M 11 a0 3 fun q10 =>
        gR M 11 a0 1 fun q11 =>
        PX8_left q9 q10 q11 x1 M fun r12 =>
        xbr ((r7 - r12) ≤ x2) (
          gR M 11 a0 2 fun q15 =>
          PX8_widen q15 x1 x2 M fun M17 =>
          K r7 M17) (
          K (J (-1003)) M)) (
        K (J (-1002)) M))))
theorem tX10_width {a0 : Nat} {x1 : Int32} {x2 : Int32} {M : Mem} {K : Int32 → Mem → Prop} (h : PX10_width a0 x1 x2 M K) : (M.1 a0).1 = 11 := h.1
def PX10_shelf (a0 : Nat) (x1 : Int32) (x2 : Int32) (M : Mem) (K : Int32 → Prop) : Prop :=
tS M 11 a0 (
  PX10_isShelf x1 M fun r1 =>
  xbr (r1 = (J 0)) (
    K (J (-1001))) (
    xbr (x2 = (J (-1))) (
      gR M 11 a0 3 fun q8 =>
      PX6_amount q8 x1 M fun r9 =>
      K r9) (
      gR M 11 a0 3 fun q5 =>
      PX6_onShelf q5 x1 x2 M fun r6 =>
      K r6)))
theorem tX10_shelf {a0 : Nat} {x1 : Int32} {x2 : Int32} {M : Mem} {K : Int32 → Prop} (h : PX10_shelf a0 x1 x2 M K) : (M.1 a0).1 = 11 := h.1
def PX10_room (a0 : Nat) (x1 : Int32) (M : Mem) (K : Int32 → Prop) : Prop :=
tS M 11 a0 (
  PX10_isShelf x1 M fun r1 =>
  xbr (r1 = (J 0)) (
    K (J (-1001))) (
    gR M 11 a0 2 fun q4 =>
    gR M 11 a0 3 fun q5 =>
    gR M 11 a0 1 fun q6 =>
    PX8_left q4 q5 q6 x1 M fun r7 =>
    K r7))
theorem tX10_room {a0 : Nat} {x1 : Int32} {M : Mem} {K : Int32 → Prop} (h : PX10_room a0 x1 M K) : (M.1 a0).1 = 11 := h.1
def PX10_set (a0 : Nat) (x1 : Int32) (x2 : Int32) (x3 : Int32) (M : Mem) (K : Int32 → Mem → Prop) : Prop :=
tS M 11 a0 (
  gR M 11 a0 1 fun q1 =>
  PX2_has q1 x1 M fun r2 =>
  xbr (r2 = (J 0)) (
    K (J (-1001)) M) (
    PX10_isShelf x2 M fun r5 =>
    xbr (r5 = (J 0)) (
      K (J (-1001)) M) (
      xbr (x3 < (J 0)) (
        K (J (-1002)) M) (
        gR M 11 a0 3 fun q9 =>
        PX6_amount q9 x2 M fun r10 =>
        xbr (x3 ≤ r10) (
          gR M 11 a0 3 fun q13 =>
          PX6_stands q13 x1 M fun r14 =>
          xbr (r14 = (J 0)) (
            gR M 11 a0 2 fun q17 =>
            gR M 11 a0 3 fun q18 =>
            gR M 11 a0 1 fun q19 =>
            PX8_left q17 q18 q19 x2 M fun r20 =>
            gR M 11 a0 1 fun q22 =>
            PX2_of q22 x1 M fun q23 =>
            gI M 1 q23 11 fun v25 =>
            xbr (v25 ≤ r20) (
              gR M 11 a0 3 fun q27 =>
              gR M 11 a0 3 fun q28 =>
              PX6_start q28 x2 M fun r29 =>
              PX6_insert q27 (r29 + x3) x1 x2 M fun M32 =>
              K (J 1) M32) (
              K (J (-1003)) M)) (
            K (J (-1003)) M)) (
          K (J (-1002)) M)))))
theorem tX10_set {a0 : Nat} {x1 : Int32} {x2 : Int32} {x3 : Int32} {M : Mem} {K : Int32 → Mem → Prop} (h : PX10_set a0 x1 x2 x3 M K) : (M.1 a0).1 = 11 := h.1
def PX10_putIfItGoes (a0 : Nat) (x1 : Int32) (x2 : Int32) (M : Mem) (K : Int32 → Mem → Prop) : Prop :=
tS M 11 a0 (
  gR M 11 a0 4 fun q1 =>
  gR M 11 a0 3 fun q2 =>
  PX6_copyFrom q1 q2 M fun M4 =>
  gR M4 11 a0 2 fun q5 =>
  gR M4 11 a0 4 fun q6 =>
  gR M4 11 a0 1 fun q7 =>
  PX8_putBy q5 q6 q7 x1 x2 M4 fun r8 M9 =>
  xbr (r8 = (J 0)) (
    isB (J 0) ∧ K (J 0) M9) (
    gR M9 11 a0 3 fun q11 =>
    gR M9 11 a0 4 fun q12 =>
    PX6_copyFrom q11 q12 M9 fun M14 =>
    isB (J 1) ∧ K (J 1) M14))
theorem tX10_putIfItGoes {a0 : Nat} {x1 : Int32} {x2 : Int32} {M : Mem} {K : Int32 → Mem → Prop} (h : PX10_putIfItGoes a0 x1 x2 M K) : (M.1 a0).1 = 11 := h.1
def PX10_put (a0 : Nat) (x1 : Int32) (x2 : Int32) (M : Mem) (K : Int32 → Mem → Prop) : Prop :=
tS M 11 a0 (
  gR M 11 a0 1 fun q1 =>
  PX2_has q1 x1 M fun r2 =>
  xbr (r2 = (J 0)) (
    K (J (-1001)) M) (
    PX10_isReading x2 M fun r5 =>
    xbr (r5 = (J 0)) (
      K (J (-1001)) M) (
      gR M 11 a0 3 fun q8 =>
      PX6_stands q8 x1 M fun r9 =>
      xbr (r9 = (J 0)) (
        PX10_putIfItGoes a0 x1 x2 M fun r12 M13 =>
        xbr (r12 = (J 0)) (
          K (J (-1003)) M13) (
          gR M13 11 a0 3 fun q15 =>
          PX6_shelfOf q15 x1 M13 fun r16 =>
          K r16 M13)) (
        K (J (-1003)) M))))
theorem tX10_put {a0 : Nat} {x1 : Int32} {x2 : Int32} {M : Mem} {K : Int32 → Mem → Prop} (h : PX10_put a0 x1 x2 M K) : (M.1 a0).1 = 11 := h.1
def PX10_take (a0 : Nat) (x1 : Int32) (M : Mem) (K : Int32 → Mem → Prop) : Prop :=
tS M 11 a0 (
  gR M 11 a0 1 fun q1 =>
  PX2_has q1 x1 M fun r2 =>
  xbr (r2 = (J 0)) (
    K (J (-1001)) M) (
    gR M 11 a0 3 fun q5 =>
    PX6_stands q5 x1 M fun r6 =>
    xbr (r6 = (J 0)) (
      K (J (-1003)) M) (
      gR M 11 a0 3 fun q9 =>
      PX6_shelfOf q9 x1 M fun r10 =>
      gR M 11 a0 3 fun q12 =>
      PX6_remove q12 x1 M fun M14 =>
      K r10 M14)))
theorem tX10_take {a0 : Nat} {x1 : Int32} {M : Mem} {K : Int32 → Mem → Prop} (h : PX10_take a0 x1 M K) : (M.1 a0).1 = 11 := h.1
def PX10_wrong (a0 : Nat) (M : Mem) (K : Int32 → Mem → Prop) : Prop :=
tS M 11 a0 (
  gR M 11 a0 5 fun q1 =>
  gR M 11 a0 3 fun q2 =>
  gR M 11 a0 1 fun q3 =>
  PX9_outOfPlace q1 q2 q3 M fun r4 M5 =>
  K r4 M5)
theorem tX10_wrong {a0 : Nat} {M : Mem} {K : Int32 → Mem → Prop} (h : PX10_wrong a0 M K) : (M.1 a0).1 = 11 := h.1
def PX10_tidy (a0 : Nat) (x1 : Int32) (M : Mem) (K : Int32 → Prop) : Prop :=
tS M 11 a0 (
  xbr (x1 = (J 0)) (
    gR M 11 a0 5 fun q2 =>
    gR M 11 a0 3 fun q3 =>
    gR M 11 a0 1 fun q4 =>
    PX9_pairs q2 q3 q4 M fun r5 =>
    K r5) (
  xbr (x1 = (J 1)) (
    gR M 11 a0 5 fun q8 =>
    gR M 11 a0 3 fun q9 =>
    gR M 11 a0 1 fun q10 =>
    PX9_firstWrong q8 q9 q10 M fun r11 =>
    K r11) (
  K (J (-1002)))))
theorem tX10_tidy {a0 : Nat} {x1 : Int32} {M : Mem} {K : Int32 → Prop} (h : PX10_tidy a0 x1 M K) : (M.1 a0).1 = 11 := h.1
def CX10_mend_59 (K : Int32 → Mem → Prop) (u0 : Nat) (u1 : Int32) (kc59 : (Mem × Int32) → Prop) (M : Mem) (x2 : Int32) : Prop :=
  xbr ((J 24) ≤ x2) (
    gR M 11 u0 3 fun q12 =>
    gR M 11 u0 4 fun q13 =>
    PX6_copyFrom q12 q13 M fun M15 =>
    PJ6_bitCount_0f7a4 u1 M15 fun r16 =>
    K r16 M15) (
    PX10_isIn u1 x2 M fun r18 =>
    xbr (r18 = (J 0)) (
      kc59 (M, (x2 + (J 1)))) (
      gR M 11 u0 2 fun q21 =>
      gR M 11 u0 4 fun q22 =>
      gR M 11 u0 1 fun q23 =>
      PX8_putBy q21 q22 q23 x2 (J 0) M fun r24 M25 =>
      xbr (r24 = (J 0)) (
        K (J (-1003)) M25) (
        kc59 (M25, (x2 + (J 1))))))
def BX10_mend_59 (K : Int32 → Mem → Prop) (u0 : Nat) (u1 : Int32) (kc59 : (Mem × Int32) → Prop) (s : (Mem × Int32)) : Prop := CX10_mend_59 K u0 u1 kc59 s.1 s.2
def CX10_mend_29 (K : Int32 → Mem → Prop) (u0 : Nat) (u1 : Int32) (kc29 : (Mem × Int32) → Prop) (M : Mem) (x2 : Int32) : Prop :=
  xbr ((J 24) ≤ x2) (
    lp (BX10_mend_59 K u0 u1) (M, (J 0))) (
    PX10_isIn u1 x2 M fun r27 =>
    xbr (r27 = (J 0)) (
      kc29 (M, (x2 + (J 1)))) (
      gR M 11 u0 4 fun q30 =>
      PX6_remove q30 x2 M fun M32 =>
      kc29 (M32, (x2 + (J 1)))))
def BX10_mend_29 (K : Int32 → Mem → Prop) (u0 : Nat) (u1 : Int32) (kc29 : (Mem × Int32) → Prop) (s : (Mem × Int32)) : Prop := CX10_mend_29 K u0 u1 kc29 s.1 s.2
def PX10_mend (a0 : Nat) (M : Mem) (K : Int32 → Mem → Prop) : Prop :=
tS M 11 a0 (
  gR M 11 a0 5 fun q1 =>
  gR M 11 a0 3 fun q2 =>
  gR M 11 a0 1 fun q3 =>
  PX9_outOfPlace q1 q2 q3 M fun r4 M5 =>
  gR M5 11 a0 4 fun q6 =>
  gR M5 11 a0 3 fun q7 =>
  PX6_copyFrom q6 q7 M5 fun M9 =>
  lp (BX10_mend_29 K a0 r4) (M9, (J 0)))
theorem tX10_mend {a0 : Nat} {M : Mem} {K : Int32 → Mem → Prop} (h : PX10_mend a0 M K) : (M.1 a0).1 = 11 := h.1
def PX10_guess (a0 : Nat) (x1 : Int32) (M : Mem) (K : Int32 → Mem → Prop) : Prop :=
tS M 11 a0 (
  gR M 11 a0 1 fun q1 =>
  PX2_has q1 x1 M fun r2 =>
  xbr (r2 = (J 0)) (
    K (J (-1001)) M) (
    gR M 11 a0 3 fun q5 =>
    PX6_stands q5 x1 M fun r6 =>
    xbr (r6 = (J 0)) (
      K (J (-1003)) M) (
      gR M 11 a0 5 fun q9 =>
      gR M 11 a0 3 fun q10 =>
      gR M 11 a0 1 fun q11 =>
      PX9_readingOf q9 q10 q11 x1 M fun r12 M13 =>
      K r12 M13)))
theorem tX10_guess {a0 : Nat} {x1 : Int32} {M : Mem} {K : Int32 → Mem → Prop} (h : PX10_guess a0 x1 M K) : (M.1 a0).1 = 11 := h.1
def PX10_lay (a0 : Nat) (x1 : Int32) (M : Mem) (K : Int32 → Mem → Prop) : Prop :=
tS M 11 a0 (
  xbr (x1 < (J 0)) (
    K (J (-1002)) M) (
    xbr (x1 ≤ (J 30)) (
      gR M 11 a0 2 fun q3 =>
      gR M 11 a0 4 fun q4 =>
      gR M 11 a0 3 fun q5 =>
      gR M 11 a0 1 fun q6 =>
      PX8_layAnew q3 q4 q5 q6 x1 M fun r7 M8 =>
      xbr (r7 = (J 0)) (
        K (J (-1003)) M8) (
        gR M8 11 a0 3 fun q10 =>
        gR M8 11 a0 4 fun q11 =>
        PX6_carriedTo q10 q11 M8 fun r12 =>
        gR M8 11 a0 3 fun q14 =>
        gR M8 11 a0 4 fun q15 =>
        PX6_copyFrom q14 q15 M8 fun M17 =>
        K r12 M17)) (
      K (J (-1002)) M)))
theorem tX10_lay {a0 : Nat} {x1 : Int32} {M : Mem} {K : Int32 → Mem → Prop} (h : PX10_lay a0 x1 M K) : (M.1 a0).1 = 11 := h.1
def PX10_tryRoom (a0 : Nat) (x1 : Int32) (x2 : Int32) (x3 : Int32) (M : Mem) (K : Int32 → Mem → Prop) : Prop :=
tS M 11 a0 (
  gR M 11 a0 4 fun q1 =>
  gR M 11 a0 3 fun q2 =>
  PX6_copyFrom q1 q2 M fun M4 =>
  gR M4 11 a0 2 fun q5 =>
  gR M4 11 a0 4 fun q6 =>
  gR M4 11 a0 1 fun q7 =>
  PX8_pushAway q5 q6 q7 x1 x2 x3 M4 fun r8 M9 =>
  xbr (r8 = (J 0)) (
    K (J (-1003)) M9) (
    gR M9 11 a0 3 fun q11 =>
    gR M9 11 a0 4 fun q12 =>
    PX6_carriedTo q11 q12 M9 fun r13 =>
    K r13 M9))
theorem tX10_tryRoom {a0 : Nat} {x1 : Int32} {x2 : Int32} {x3 : Int32} {M : Mem} {K : Int32 → Mem → Prop} (h : PX10_tryRoom a0 x1 x2 x3 M K) : (M.1 a0).1 = 11 := h.1
def JX10_make_124 (K : Int32 → Mem → Prop) (M : Mem) (j7 : Int32) (s0 : Int32) (s1 : Int32) (s2 : Int32) (s3 : Nat) (s4 : Nat) (s5 : Nat) : Prop :=
  PX8_pushAway s5 s4 s3 s2 s1 s0 M fun r18 M19 =>
  K j7 M19
def JX10_make_86 (K : Int32 → Mem → Prop) (M : Mem) (j0 : Nat) (j1 : Int32) (j2 : Int32) (j3 : Int32) (j6 : Int32) (s0 : Int32) : Prop :=
  xbr (j3 = (J 0)) (
    K s0 M) (
    xbr (s0 = (J (-1003))) (
      K s0 M) (
      gR M 11 j0 2 fun q14 =>
      gR M 11 j0 3 fun q15 =>
      gR M 11 j0 1 fun q16 =>
      xbr (j6 = (J 0)) (
        JX10_make_124 K M s0 (J 1) j2 j1 q16 q15 q14) (
        JX10_make_124 K M s0 (J (-1)) j2 j1 q16 q15 q14)))
def JX10_make_72 (K : Int32 → Mem → Prop) (M : Mem) (j0 : Nat) (j1 : Int32) (j2 : Int32) (j3 : Int32) (j4 : Int32) (j5 : Int32) (s0 : Int32) : Prop :=
  xbr (s0 = (J 0)) (
    JX10_make_86 K M j0 j1 j2 j3 s0 j4) (
    JX10_make_86 K M j0 j1 j2 j3 s0 j5)
def JX10_make_71 (K : Int32 → Mem → Prop) (M : Mem) (j0 : Nat) (j1 : Int32) (j2 : Int32) (j3 : Int32) (j4 : Int32) (j5 : Int32) : Prop :=
  JX10_make_72 K M j0 j1 j2 j3 j4 j5 (J 0)
def JX10_make_67 (K : Int32 → Mem → Prop) (M : Mem) (j0 : Nat) (j1 : Int32) (j2 : Int32) (j3 : Int32) (j4 : Int32) (j5 : Int32) : Prop :=
  JX10_make_72 K M j0 j1 j2 j3 j4 j5 (J 1)
def PX10_make (a0 : Nat) (x1 : Int32) (x2 : Int32) (x3 : Int32) (M : Mem) (K : Int32 → Mem → Prop) : Prop :=
tS M 11 a0 (
  PX10_isShelf x1 M fun r1 =>
  xbr (r1 = (J 0)) (
    K (J (-1001)) M) (
    xbr (x2 < (J 1)) (
      K (J (-1002)) M) (
      xbr (x2 ≤ (J 30)) (
        PX10_tryRoom a0 x1 x2 (J 1) M fun r6 M7 =>
        PX10_tryRoom a0 x1 x2 (J (-1)) M7 fun r8 M9 =>
        xbr (r8 = (J (-1003))) (
          JX10_make_71 K M9 a0 x1 x2 x3 r6 r8) (
          xbr (r6 = (J (-1003))) (
            JX10_make_67 K M9 a0 x1 x2 x3 r6 r8) (
            xbr (r6 ≤ r8) (
              JX10_make_71 K M9 a0 x1 x2 x3 r6 r8) (
              JX10_make_67 K M9 a0 x1 x2 x3 r6 r8)))) (
        K (J (-1002)) M))))
theorem tX10_make {a0 : Nat} {x1 : Int32} {x2 : Int32} {x3 : Int32} {M : Mem} {K : Int32 → Mem → Prop} (h : PX10_make a0 x1 x2 x3 M K) : (M.1 a0).1 = 11 := h.1
def CX10_someBegins_3 (K : Int32 → Prop) (M : Mem) (u0 : Nat) (u1 : Nat) (u2 : Int32) (u3 : Int32) (kc3 : Int32 → Prop) (x4 : Int32) : Prop :=
  xbr (u3 ≤ x4) (
    isB (J 0) ∧ K (J 0)) (
    gR M 11 u0 1 fun q2 =>
    gR M 11 u0 3 fun q3 =>
    PX6_bookAt q3 x4 M fun r4 =>
    PX2_of q2 r4 M fun q6 =>
    gR M 1 q6 0 fun q8 =>
    PX1_beginsWith q8 u1 u2 M fun r9 =>
    xbr (r9 = (J 0)) (
      kc3 (x4 + (J 1))) (
      isB (J 1) ∧ K (J 1)))
def BX10_someBegins_3 (K : Int32 → Prop) (M : Mem) (u0 : Nat) (u1 : Nat) (u2 : Int32) (u3 : Int32) (kc3 : Int32 → Prop) (s : Int32) : Prop := CX10_someBegins_3 K M u0 u1 u2 u3 kc3 s
def PX10_someBegins (a0 : Nat) (a1 : Nat) (x2 : Int32) (x3 : Int32) (M : Mem) (K : Int32 → Prop) : Prop :=
tS M 11 a0 (
  lp (BX10_someBegins_3 K M a0 a1 x2 x3) (J 0))
theorem tX10_someBegins {a0 : Nat} {a1 : Nat} {x2 : Int32} {x3 : Int32} {M : Mem} {K : Int32 → Prop} (h : PX10_someBegins a0 a1 x2 x3 M K) : (M.1 a0).1 = 11 := h.1
def CX10_guideLength_25 (K : Int32 → Prop) (M : Mem) (u0 : Nat) (u3 : Nat) (u4 : Int32) (kc25 : Int32 → Prop) (x5 : Int32) : Prop :=
  PX1_size u3 M fun r8 =>
  xbr (r8 ≤ x5) (
    PX1_size u3 M fun r11 =>
    K r11) (
    PX10_someBegins u0 u3 x5 u4 M fun r13 =>
    xbr (r13 = (J 0)) (
      K x5) (
      kc25 (x5 + (J 1))))
def BX10_guideLength_25 (K : Int32 → Prop) (M : Mem) (u0 : Nat) (u3 : Nat) (u4 : Int32) (kc25 : Int32 → Prop) (s : Int32) : Prop := CX10_guideLength_25 K M u0 u3 u4 kc25 s
def PX10_guideLength (a0 : Nat) (x1 : Int32) (x2 : Int32) (M : Mem) (K : Int32 → Prop) : Prop :=
tS M 11 a0 (
  gR M 11 a0 1 fun q1 =>
  PX2_of q1 x1 M fun q2 =>
  gR M 1 q2 0 fun q4 =>
  gR M 11 a0 3 fun q5 =>
  PX6_start q5 x2 M fun r6 =>
  lp (BX10_guideLength_25 K M a0 q4 r6) (J 1))
theorem tX10_guideLength {a0 : Nat} {x1 : Int32} {x2 : Int32} {M : Mem} {K : Int32 → Prop} (h : PX10_guideLength a0 x1 x2 M K) : (M.1 a0).1 = 11 := h.1
def JX10_guide_36 (K : Int32 → Prop) (M : Mem) (j0 : Nat) (j2 : Int32) (j3 : Int32) (s0 : Int32) : Prop :=
  xbr (j2 = (J (-1))) (
    K s0) (
    xbr (j2 < (J 0)) (
      K (J (-1))) (
      xbr (s0 ≤ j2) (
        K (J (-1))) (
        gR M 11 j0 1 fun q13 =>
        PX2_of q13 j3 M fun q14 =>
        gR M 1 q14 0 fun q16 =>
        PX1_get q16 j2 M fun r17 =>
        K r17)))
def PX10_guide (a0 : Nat) (x1 : Int32) (x2 : Int32) (M : Mem) (K : Int32 → Prop) : Prop :=
tS M 11 a0 (
  PX10_isShelf x1 M fun r1 =>
  xbr (r1 = (J 0)) (
    K (J (-1001))) (
    gR M 11 a0 3 fun q4 =>
    PX6_onShelf q4 x1 (J 0) M fun r5 =>
    xbr (r5 = (J (-1))) (
      JX10_guide_36 K M a0 x2 r5 (J 0)) (
      PX10_guideLength a0 r5 x1 M fun r8 =>
      JX10_guide_36 K M a0 x2 r5 r8)))
theorem tX10_guide {a0 : Nat} {x1 : Int32} {x2 : Int32} {M : Mem} {K : Int32 → Prop} (h : PX10_guide a0 x1 x2 M K) : (M.1 a0).1 = 11 := h.1
def PX10_isSetOfBooks (a0 : Nat) (x1 : Int32) (M : Mem) (K : Int32 → Prop) : Prop :=
tS M 11 a0 (
  xbr (x1 < (J 0)) (
    isB (J 0) ∧ K (J 0)) (
    gR M 11 a0 1 fun q2 =>
    PX2_size q2 M fun r3 =>
    xbr (((J 1) <<< (r3 &&& 31)) ≤ x1) (
      isB (J 0) ∧ K (J 0)) (
      isB (J 1) ∧ K (J 1))))
theorem tX10_isSetOfBooks {a0 : Nat} {x1 : Int32} {M : Mem} {K : Int32 → Prop} (h : PX10_isSetOfBooks a0 x1 M K) : (M.1 a0).1 = 11 := h.1
def PX10_list (a0 : Nat) (x1 : Int32) (M : Mem) (K : Int32 → Mem → Prop) : Prop :=
tS M 11 a0 (
  PX10_isSetOfBooks a0 x1 M fun r1 =>
  xbr (r1 = (J 0)) (
    K (J (-1002)) M) (
    gI M 11 a0 11 fun v4 =>
    pF M 11 a0 11 (.int x1) fun M5 =>
    K v4 M5))
theorem tX10_list {a0 : Nat} {x1 : Int32} {M : Mem} {K : Int32 → Mem → Prop} (h : PX10_list a0 x1 M K) : (M.1 a0).1 = 11 := h.1
def PX10_stock (a0 : Nat) (x1 : Int32) (M : Mem) (K : Int32 → Prop) : Prop :=
tS M 11 a0 (
  xbr (x1 = (J 0)) (
    gI M 11 a0 11 fun v2 =>
    gR M 11 a0 3 fun q3 =>
    PX6_standing q3 M fun r4 =>
    K (v2 &&& (r4 ^^^ (J (-1))))) (
  xbr (x1 = (J 1)) (
    gR M 11 a0 3 fun q7 =>
    PX6_standing q7 M fun r8 =>
    gI M 11 a0 11 fun v10 =>
    K (r8 &&& (v10 ^^^ (J (-1))))) (
  K (J (-1002)))))
theorem tX10_stock {a0 : Nat} {x1 : Int32} {M : Mem} {K : Int32 → Prop} (h : PX10_stock a0 x1 M K) : (M.1 a0).1 = 11 := h.1
def PX10_habit (a0 : Nat) (x1 : Int32) (x2 : Int32) (M : Mem) (K : Int32 → Mem → Prop) : Prop :=
tS M 11 a0 (
  PX10_isReading x1 M fun r1 =>
  xbr (r1 = (J 0)) (
    K (J (-1001)) M) (
    xbr (x2 < (J 0)) (
      K (J (-1002)) M) (
      xbr (x2 ≤ (J 99)) (
        gR M 11 a0 6 fun q6 =>
        PX3_weight q6 x1 M fun r7 =>
        gR M 11 a0 6 fun q9 =>
        PX3_weigh q9 x1 x2 M fun M11 =>
        K r7 M11) (
        K (J (-1002)) M))))
theorem tX10_habit {a0 : Nat} {x1 : Int32} {x2 : Int32} {M : Mem} {K : Int32 → Mem → Prop} (h : PX10_habit a0 x1 x2 M K) : (M.1 a0).1 = 11 := h.1
def PX10_likely (a0 : Nat) (x1 : Int32) (x2 : Int32) (M : Mem) (K : Int32 → Prop) : Prop :=
tS M 11 a0 (
  gR M 11 a0 1 fun q1 =>
  PX2_has q1 x1 M fun r2 =>
  xbr (r2 = (J 0)) (
    K (J (-1001))) (
    PX10_isShelf x2 M fun r5 =>
    xbr (r5 = (J 0)) (
      K (J (-1001))) (
      gR M 11 a0 3 fun q8 =>
      PX6_stands q8 x1 M fun r9 =>
      xbr (r9 = (J 0)) (
        gR M 11 a0 6 fun q12 =>
        gR M 11 a0 3 fun q13 =>
        gR M 11 a0 1 fun q14 =>
        PX3_chance q12 q13 q14 x1 x2 M fun r15 =>
        K r15) (
        K (J (-1003))))))
theorem tX10_likely {a0 : Nat} {x1 : Int32} {x2 : Int32} {M : Mem} {K : Int32 → Prop} (h : PX10_likely a0 x1 x2 M K) : (M.1 a0).1 = 11 := h.1
def PX10_search (a0 : Nat) (x1 : Int32) (x2 : Int32) (M : Mem) (K : Int32 → Mem → Prop) : Prop :=
tS M 11 a0 (
  gR M 11 a0 1 fun q1 =>
  PX2_has q1 x1 M fun r2 =>
  xbr (r2 = (J 0)) (
    K (J (-1001)) M) (
    gR M 11 a0 3 fun q5 =>
    PX6_stands q5 x1 M fun r6 =>
    xbr (r6 = (J 0)) (
      gR M 11 a0 7 fun q9 =>
      gR M 11 a0 3 fun q10 =>
      gR M 11 a0 1 fun q11 =>
      gR M 11 a0 6 fun q12 =>
      PX7_begin q9 q10 q11 q12 x1 M fun M14 =>
      gR M14 11 a0 7 fun q15 =>
      gR M14 11 a0 3 fun q16 =>
      PX7_find q15 q16 M14 fun M18 =>
      xbr (x2 = (J (-1))) (
        gR M18 11 a0 7 fun q23 =>
        PX7_leastCost q23 M18 fun r24 =>
        K r24 M18) (
        gR M18 11 a0 7 fun q20 =>
        PX7_shelfAt q20 x2 M18 fun r21 =>
        K r21 M18)) (
      K (J (-1003)) M)))
theorem tX10_search {a0 : Nat} {x1 : Int32} {x2 : Int32} {M : Mem} {K : Int32 → Mem → Prop} (h : PX10_search a0 x1 x2 M K) : (M.1 a0).1 = 11 := h.1
def PX10_seed (a0 : Nat) (x1 : Int32) (M : Mem) (K : Int32 → Mem → Prop) : Prop :=
tS M 11 a0 (
  xbr ((J 0) ≤ x1) (
    gI M 11 a0 12 fun v2 =>
    pF M 11 a0 12 (.int x1) fun M3 =>
    K v2 M3) (
    K (J (-1002)) M))
theorem tX10_seed {a0 : Nat} {x1 : Int32} {M : Mem} {K : Int32 → Mem → Prop} (h : PX10_seed a0 x1 M K) : (M.1 a0).1 = 11 := h.1
def PX10_draw (a0 : Nat) (x1 : Int32) (M : Mem) (K : Int32 → Mem → Prop) : Prop :=
tS M 11 a0 (
  gI M 11 a0 12 fun v1 =>
  pF M 11 a0 12 (.int (((v1.toInt64 * (LJ 1103515245)) + (LJ 12345)) &&& (LJ 2147483647)).toInt32) fun M2 =>
  xbr (x1 ≤ (J 0)) (
    K (J 0) M2) (
    gI M2 11 a0 12 fun v4 =>
    ¬ x1 = 0 ∧
    K ((v4 / (J 65536)) - (v4 / (J 65536)) / x1 * x1) M2))
theorem tX10_draw {a0 : Nat} {x1 : Int32} {M : Mem} {K : Int32 → Mem → Prop} (h : PX10_draw a0 x1 M K) : (M.1 a0).1 = 11 := h.1
def CX10_shelve_30 (K : Int32 → Mem → Prop) (u0 : Nat) (u1 : Int32) (kc30 : (Mem × Int32 × Int32) → Prop) (M : Mem) (x2 : Int32) (x3 : Int32) : Prop :=
  xbr ((J 24) ≤ x3) (
    K x2 M) (
    PX10_isIn u1 x3 M fun r9 =>
    xbr (r9 = (J 0)) (
      kc30 (M, x2, (x3 + (J 1)))) (
      gR M 11 u0 3 fun q12 =>
      PX6_stands q12 x3 M fun r13 =>
      xbr (r13 = (J 0)) (
        gR M 11 u0 6 fun q16 =>
        gR M 11 u0 6 fun q17 =>
        PX3_total q17 M fun r18 =>
        PX10_draw u0 r18 M fun r20 M21 =>
        PX3_readingOf q16 r20 M21 fun r22 =>
        PX10_putIfItGoes u0 x3 r22 M21 fun r24 M25 =>
        xbr (r24 = (J 0)) (
          kc30 (M25, x2, (x3 + (J 1)))) (
          kc30 (M25, (x2 + (J 1)), (x3 + (J 1))))) (
        kc30 (M, x2, (x3 + (J 1))))))
def BX10_shelve_30 (K : Int32 → Mem → Prop) (u0 : Nat) (u1 : Int32) (kc30 : (Mem × Int32 × Int32) → Prop) (s : (Mem × Int32 × Int32)) : Prop := CX10_shelve_30 K u0 u1 kc30 s.1 s.2.1 s.2.2
def PX10_shelve (a0 : Nat) (x1 : Int32) (M : Mem) (K : Int32 → Mem → Prop) : Prop :=
tS M 11 a0 (
  PX10_isSetOfBooks a0 x1 M fun r1 =>
  xbr (r1 = (J 0)) (
    K (J (-1002)) M) (
    gR M 11 a0 6 fun q4 =>
    PX3_total q4 M fun r5 =>
    xbr (r5 = (J 0)) (
      K (J (-1003)) M) (
      lp (BX10_shelve_30 K a0 x1) (M, (J 0), (J 0)))))
theorem tX10_shelve {a0 : Nat} {x1 : Int32} {M : Mem} {K : Int32 → Mem → Prop} (h : PX10_shelve a0 x1 M K) : (M.1 a0).1 = 11 := h.1
def PX10_isImage (x0 : Int32) (M : Mem) (K : Int32 → Prop) : Prop :=
  xbr (x0 < (J 0)) (
    isB (J 0) ∧ K (J 0)) (
    xbr ((J 2) ≤ x0) (
      isB (J 0) ∧ K (J 0)) (
      isB (J 1) ∧ K (J 1)))
def PX10_imageOf (a0 : Nat) (x1 : Int32) (M : Mem) (K : Nat → Prop) : Prop :=
tS M 11 a0 (
  xbr (x1 = (J 0)) (
    gR M 11 a0 8 fun q3 =>
    K q3) (
    gR M 11 a0 9 fun q2 =>
    K q2))
theorem tX10_imageOf {a0 : Nat} {x1 : Int32} {M : Mem} {K : Nat → Prop} (h : PX10_imageOf a0 x1 M K) : (M.1 a0).1 = 11 := h.1
def PX10_keep (a0 : Nat) (x1 : Int32) (M : Mem) (K : Int32 → Mem → Prop) : Prop :=
tS M 11 a0 (
  PX10_isImage x1 M fun r1 =>
  xbr (r1 = (J 0)) (
    K (J (-1001)) M) (
    PX10_imageOf a0 x1 M fun q4 =>
    gR M 11 a0 3 fun q6 =>
    gI M 11 a0 11 fun v7 =>
    gI M 11 a0 12 fun v8 =>
    PX4_store q4 q6 v7 v8 M fun M10 =>
    K (J 1) M10))
theorem tX10_keep {a0 : Nat} {x1 : Int32} {M : Mem} {K : Int32 → Mem → Prop} (h : PX10_keep a0 x1 M K) : (M.1 a0).1 = 11 := h.1
def PX10_goBack (a0 : Nat) (x1 : Int32) (M : Mem) (K : Int32 → Mem → Prop) : Prop :=
tS M 11 a0 (
  PX10_isImage x1 M fun r1 =>
  xbr (r1 = (J 0)) (
    K (J (-1001)) M) (
    PX10_imageOf a0 x1 M fun q4 =>
    gI M 5 q4 3 fun v6 =>
    xbr (v6 = (J 0)) (
      K (J (-1003)) M) (
      gR M 11 a0 2 fun q8 =>
      gR M 5 q4 0 fun q9 =>
      gR M 11 a0 1 fun q10 =>
      PX8_hold q8 q9 q10 M fun r11 =>
      xbr (r11 = (J 0)) (
        K (J (-1003)) M) (
        gR M 11 a0 3 fun q14 =>
        gR M 5 q4 0 fun q15 =>
        PX6_copyFrom q14 q15 M fun M17 =>
        gI M17 5 q4 1 fun v18 =>
        pF M17 11 a0 11 (.int v18) fun M19 =>
        gI M19 5 q4 2 fun v20 =>
        pF M19 11 a0 12 (.int v20) fun M21 =>
        K (J 1) M21))))
theorem tX10_goBack {a0 : Nat} {x1 : Int32} {M : Mem} {K : Int32 → Mem → Prop} (h : PX10_goBack a0 x1 M K) : (M.1 a0).1 = 11 := h.1
