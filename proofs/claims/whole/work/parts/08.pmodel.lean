/-! the law and the methods of the reference, told purely (by program) -/
def CX11_init_192 (K : Mem → Prop) (u0 : Nat) (kc192 : (Mem × Int32) → Prop) (M : Mem) (x1 : Int32) : Prop :=
  xbr ((J 5) ≤ x1) (
    K M) (
    gR M 12 u0 11 fun q64 =>
    xbr (x1 = (J 0)) (
      aS M q64 x1 (J 60) fun M67 =>
      kc192 (M67, (x1 + (J 1)))) (
      aS M q64 x1 (J 10) fun M66 =>
      kc192 (M66, (x1 + (J 1)))))
def BX11_init_192 (K : Mem → Prop) (u0 : Nat) (kc192 : (Mem × Int32) → Prop) (s : (Mem × Int32)) : Prop := CX11_init_192 K u0 kc192 s.1 s.2
def CX11_init_170 (K : Mem → Prop) (u0 : Nat) (kc170 : (Mem × Int32) → Prop) (M : Mem) (x1 : Int32) : Prop :=
  xbr ((J 8) ≤ x1) (
    lp (BX11_init_192 K u0) (M, (J 0))) (
    gR M 12 u0 6 fun q68 =>
    aS M q68 x1 (J 30) fun M69 =>
    kc170 (M69, (x1 + (J 1))))
def BX11_init_170 (K : Mem → Prop) (u0 : Nat) (kc170 : (Mem × Int32) → Prop) (s : (Mem × Int32)) : Prop := CX11_init_170 K u0 kc170 s.1 s.2
def PX11_init (a0 : Nat) (M : Mem) (K : Mem → Prop) : Prop :=
tS M 12 a0 (
  nA M 100 (defaultValue .int) (J 384) 384 fun q1 M2 =>
  pF M2 12 a0 1 (.ref q1) fun M3 =>
  nA M3 100 (defaultValue .int) (J 24) 24 fun q4 M5 =>
  pF M5 12 a0 2 (.ref q4) fun M6 =>
  nA M6 100 (defaultValue .int) (J 24) 24 fun q7 M8 =>
  pF M8 12 a0 3 (.ref q7) fun M9 =>
  nA M9 100 (defaultValue .int) (J 24) 24 fun q10 M11 =>
  pF M11 12 a0 4 (.ref q10) fun M12 =>
  nA M12 100 (defaultValue .int) (J 24) 24 fun q13 M14 =>
  pF M14 12 a0 5 (.ref q13) fun M15 =>
  nA M15 100 (defaultValue .int) (J 8) 8 fun q16 M17 =>
  pF M17 12 a0 6 (.ref q16) fun M18 =>
  nA M18 100 (defaultValue .int) (J 25) 25 fun q19 M20 =>
  pF M20 12 a0 8 (.ref q19) fun M21 =>
  nA M21 100 (defaultValue .int) (J 8) 8 fun q22 M23 =>
  pF M23 12 a0 9 (.ref q22) fun M24 =>
  nA M24 100 (defaultValue .int) (J 5) 5 fun q25 M26 =>
  pF M26 12 a0 11 (.ref q25) fun M27 =>
  nA M27 100 (defaultValue .int) (J 600) 600 fun q28 M29 =>
  pF M29 12 a0 12 (.ref q28) fun M30 =>
  pF M30 12 a0 14 (.int (J (-1))) fun M31 =>
  nA M31 100 (defaultValue .int) (J 24) 24 fun q32 M33 =>
  pF M33 12 a0 18 (.ref q32) fun M34 =>
  nA M34 100 (defaultValue .int) (J 25) 25 fun q35 M36 =>
  pF M36 12 a0 21 (.ref q35) fun M37 =>
  nA M37 100 (defaultValue .int) (J 8) 8 fun q38 M39 =>
  pF M39 12 a0 22 (.ref q38) fun M40 =>
  nA M40 100 (defaultValue .int) (J 650) 650 fun q41 M42 =>
  pF M42 12 a0 23 (.ref q41) fun M43 =>
  nA M43 100 (defaultValue .int) (J 24) 24 fun q44 M45 =>
  pF M45 12 a0 24 (.ref q44) fun M46 =>
  nA M46 100 (defaultValue .int) (J 5) 5 fun q47 M48 =>
  pF M48 12 a0 26 (.ref q47) fun M49 =>
  nA M49 100 (defaultValue .int) (J 5) 5 fun q50 M51 =>
  pF M51 12 a0 27 (.ref q50) fun M52 =>
  nA M52 100 (defaultValue .int) (J 8) 8 fun q53 M54 =>
  pF M54 12 a0 28 (.ref q53) fun M55 =>
  nA M55 100 (defaultValue .int) (J 80) 80 fun q56 M57 =>
  pF M57 12 a0 30 (.ref q56) fun M58 =>
  nA M58 101 (defaultValue .boolean) (J 2) 2 fun q59 M60 =>
  pF M60 12 a0 31 (.ref q59) fun M61 =>
  lp (BX11_init_170 K a0) (M61, (J 0)))
theorem tX11_init {a0 : Nat} {M : Mem} {K : Mem → Prop} (h : PX11_init a0 M K) : (M.1 a0).1 = 12 := h.1
def PX11_in (x0 : Int64) (x2 : Int64) (x4 : Int64) (M : Mem) (K : Int32 → Prop) : Prop :=
  xbr ((lg_cmp x0 x2) < (J 0)) (
    isB (J 0) ∧ K (J 0)) (
    xbr ((J 0) < (lg_cmp x0 x4)) (
      isB (J 0) ∧ K (J 0)) (
      isB (J 1) ∧ K (J 1)))
def PX11_has (x0 : Int32) (x1 : Int32) (M : Mem) (K : Int32 → Prop) : Prop :=
  xbr (((x0 >>> (x1 &&& 31)) &&& (J 1)) = (J 1)) (
    isB (J 1) ∧ K (J 1)) (
    isB (J 0) ∧ K (J 0))
def PX11_isBook (a0 : Nat) (x1 : Int32) (M : Mem) (K : Int32 → Prop) : Prop :=
tS M 12 a0 (
  gI M 12 a0 0 fun v1 =>
  PX11_in x1.toInt64 (LJ 0) (v1 - (J 1)).toInt64 M fun r2 =>
  isB r2 ∧ K r2)
theorem tX11_isBook {a0 : Nat} {x1 : Int32} {M : Mem} {K : Int32 → Prop} (h : PX11_isBook a0 x1 M K) : (M.1 a0).1 = 12 := h.1
def PX11_isShelf (x0 : Int32) (M : Mem) (K : Int32 → Prop) : Prop :=
  PX11_in x0.toInt64 (LJ 0) (LJ 7) M fun r1 =>
  isB r1 ∧ K r1
def PX11_isReading (x0 : Int32) (M : Mem) (K : Int32 → Prop) : Prop :=
  PX11_in x0.toInt64 (LJ 0) (LJ 4) M fun r1 =>
  isB r1 ∧ K r1
def CX11_feed_37 (K : Int32 → Mem → Prop) (u0 : Nat) (u2 : Int64) (kc37 : (Mem × Int32) → Prop) (M : Mem) (x4 : Int32) : Prop :=
  xbr (x4 < (J 0)) (
    gI M 12 u0 13 fun v8 =>
    K v8 M) (
    gR M 12 u0 12 fun q9 =>
    gI M 12 u0 13 fun v10 =>
    aS M q9 v10 ((u2 >>> (((J 8) * x4).toInt64 &&& 63)) &&& (LJ 255)).toInt32 fun M11 =>
    gI M11 12 u0 13 fun v12 =>
    pF M11 12 u0 13 (.int (v12 + (J 1))) fun M13 =>
    kc37 (M13, (x4 + (J (-1)))))
def BX11_feed_37 (K : Int32 → Mem → Prop) (u0 : Nat) (u2 : Int64) (kc37 : (Mem × Int32) → Prop) (s : (Mem × Int32)) : Prop := CX11_feed_37 K u0 u2 kc37 s.1 s.2
def PX11_feed (a0 : Nat) (x1 : Int32) (x2 : Int64) (M : Mem) (K : Int32 → Mem → Prop) : Prop :=
tS M 12 a0 (
  PX11_in x1.toInt64 (LJ 1) (LJ 8) M fun r1 =>
  xbr (r1 = (J 0)) (
    K (J (-1002)) M) (
    gI M 12 a0 13 fun v4 =>
    xbr ((v4 + x1) ≤ (J 600)) (
      ∃ y6 : Int32, y6 = (x1 - (J 1)) ∧
      lp (BX11_feed_37 K a0 x2) (M, y6)) (
      K (J (-1004)) M)))
theorem tX11_feed {a0 : Nat} {x1 : Int32} {x2 : Int64} {M : Mem} {K : Int32 → Mem → Prop} (h : PX11_feed a0 x1 x2 M K) : (M.1 a0).1 = 12 := h.1
def PX11_byteAt (a0 : Nat) (M : Mem) (K : Int32 → Prop) : Prop :=
tS M 12 a0 (
  gI M 12 a0 15 fun v1 =>
  gI M 12 a0 13 fun v2 =>
  xbr (v2 ≤ v1) (
    K (J (-1))) (
    gR M 12 a0 12 fun q4 =>
    gI M 12 a0 15 fun v5 =>
    aI M q4 v5 fun v6 =>
    K v6))
theorem tX11_byteAt {a0 : Nat} {M : Mem} {K : Int32 → Prop} (h : PX11_byteAt a0 M K) : (M.1 a0).1 = 12 := h.1
def JX11_here_38 (K : Int32 → Mem → Prop) (M : Mem) (j0 : Nat) : Prop :=
  PX11_byteAt j0 M fun r4 =>
  K r4 M
def CX11_here_0 (K : Int32 → Mem → Prop) (u0 : Nat) (kc0 : Mem → Prop) (M : Mem) : Prop :=
  gI M 12 u0 15 fun v1 =>
  gI M 12 u0 13 fun v2 =>
  xbr (v2 ≤ v1) (
    JX11_here_38 K M u0) (
    gR M 12 u0 12 fun q6 =>
    gI M 12 u0 15 fun v7 =>
    aI M q6 v7 fun v8 =>
    xbr (v8 = (J 32)) (
      gI M 12 u0 15 fun v10 =>
      pF M 12 u0 15 (.int (v10 + (J 1))) fun M11 =>
      kc0 M11) (
      JX11_here_38 K M u0))
def BX11_here_0 (K : Int32 → Mem → Prop) (u0 : Nat) (kc0 : Mem → Prop) (s : Mem) : Prop := CX11_here_0 K u0 kc0 s
def PX11_here (a0 : Nat) (M : Mem) (K : Int32 → Mem → Prop) : Prop :=
tS M 12 a0 (
  lp (BX11_here_0 K a0) M)
theorem tX11_here {a0 : Nat} {M : Mem} {K : Int32 → Mem → Prop} (h : PX11_here a0 M K) : (M.1 a0).1 = 12 := h.1
def PX11_fails (a0 : Nat) (x1 : Int32) (x2 : Int32) (M : Mem) (K : Int32 → Mem → Prop) : Prop :=
tS M 12 a0 (
  pF M 12 a0 14 (.int x2) fun M1 =>
  K x1 M1)
theorem tX11_fails {a0 : Nat} {x1 : Int32} {x2 : Int32} {M : Mem} {K : Int32 → Mem → Prop} (h : PX11_fails a0 x1 x2 M K) : (M.1 a0).1 = 12 := h.1
def PX11_isLetter (a0 : Nat) (M : Mem) (K : Int32 → Prop) : Prop :=
tS M 12 a0 (
  PX11_byteAt a0 M fun r1 =>
  PX11_in r1.toInt64 (LJ 97) (LJ 122) M fun r3 =>
  isB r3 ∧ K r3)
theorem tX11_isLetter {a0 : Nat} {M : Mem} {K : Int32 → Prop} (h : PX11_isLetter a0 M K) : (M.1 a0).1 = 12 := h.1
def PX11_isFigure (a0 : Nat) (M : Mem) (K : Int32 → Prop) : Prop :=
tS M 12 a0 (
  PX11_byteAt a0 M fun r1 =>
  PX11_in r1.toInt64 (LJ 48) (LJ 57) M fun r3 =>
  isB r3 ∧ K r3)
theorem tX11_isFigure {a0 : Nat} {M : Mem} {K : Int32 → Prop} (h : PX11_isFigure a0 M K) : (M.1 a0).1 = 12 := h.1
def CX11_takeFigures_5 (K : Int32 → Mem → Prop) (u0 : Nat) (u1 : Int32) (kc5 : Mem → Prop) (M : Mem) : Prop :=
  PX11_isFigure u0 M fun r2 =>
  xbr (r2 = (J 0)) (
    gI M 12 u0 17 fun v5 =>
    xbr (v5 = (J 0)) (
      gI M 12 u0 15 fun v7 =>
      PX11_fails u0 (J 1) v7 M fun r8 M9 =>
      K r8 M9) (
      K (J 0) M)) (
    gI M 12 u0 17 fun v10 =>
    xbr (v10 = (J 4)) (
      gI M 12 u0 15 fun v21 =>
      PX11_fails u0 (J 2) v21 M fun r22 M23 =>
      K r22 M23) (
      gR M 12 u0 1 fun q12 =>
      gI M 12 u0 17 fun v13 =>
      PX11_byteAt u0 M fun r14 =>
      aS M q12 (u1 + v13) (r14 - (J 48)) fun M16 =>
      gI M16 12 u0 17 fun v17 =>
      pF M16 12 u0 17 (.int (v17 + (J 1))) fun M18 =>
      gI M18 12 u0 15 fun v19 =>
      pF M18 12 u0 15 (.int (v19 + (J 1))) fun M20 =>
      kc5 M20))
def BX11_takeFigures_5 (K : Int32 → Mem → Prop) (u0 : Nat) (u1 : Int32) (kc5 : Mem → Prop) (s : Mem) : Prop := CX11_takeFigures_5 K u0 u1 kc5 s
def PX11_takeFigures (a0 : Nat) (x1 : Int32) (M : Mem) (K : Int32 → Mem → Prop) : Prop :=
tS M 12 a0 (
  pF M 12 a0 17 (.int (J 0)) fun M1 =>
  lp (BX11_takeFigures_5 K a0 x1) M1)
theorem tX11_takeFigures {a0 : Nat} {x1 : Int32} {M : Mem} {K : Int32 → Mem → Prop} (h : PX11_takeFigures a0 x1 M K) : (M.1 a0).1 = 12 := h.1
def JX11_takeClass_100 (K : Int32 → Mem → Prop) (M : Mem) (j0 : Nat) : Prop :=
  PX11_isLetter j0 M fun r17 =>
  xbr (r17 = (J 0)) (
    PX11_byteAt j0 M fun r20 =>
    xbr (r20 = (J 48)) (
      gI M 12 j0 15 fun v23 =>
      PX11_fails j0 (J 1) v23 M fun r24 M25 =>
      K r24 M25) (
      K (J 0) M)) (
    gI M 12 j0 15 fun v26 =>
    PX11_fails j0 (J 2) v26 M fun r27 M28 =>
    K r27 M28)
def PX11_takeClass (a0 : Nat) (x1 : Int32) (M : Mem) (K : Int32 → Mem → Prop) : Prop :=
tS M 12 a0 (
  PX11_isLetter a0 M fun r1 =>
  xbr (r1 = (J 0)) (
    gI M 12 a0 15 fun v38 =>
    PX11_fails a0 (J 1) v38 M fun r39 M40 =>
    K r39 M40) (
    gI M 12 a0 16 fun v4 =>
    xbr (v4 = (J 24)) (
      gI M 12 a0 15 fun v35 =>
      PX11_fails a0 (J 4) v35 M fun r36 M37 =>
      K r36 M37) (
      gR M 12 a0 1 fun q6 =>
      PX11_byteAt a0 M fun r7 =>
      aS M q6 x1 (r7 - (J 97)) fun M9 =>
      gR M9 12 a0 1 fun q10 =>
      aS M9 q10 (x1 + (J 1)) (J (-1)) fun M11 =>
      gI M11 12 a0 15 fun v12 =>
      pF M11 12 a0 15 (.int (v12 + (J 1))) fun M13 =>
      PX11_isLetter a0 M13 fun r14 =>
      xbr (r14 = (J 0)) (
        JX11_takeClass_100 K M13 a0) (
        gR M13 12 a0 1 fun q29 =>
        PX11_byteAt a0 M13 fun r30 =>
        aS M13 q29 (x1 + (J 1)) (r30 - (J 97)) fun M32 =>
        gI M32 12 a0 15 fun v33 =>
        pF M32 12 a0 15 (.int (v33 + (J 1))) fun M34 =>
        JX11_takeClass_100 K M34 a0))))
theorem tX11_takeClass {a0 : Nat} {x1 : Int32} {M : Mem} {K : Int32 → Mem → Prop} (h : PX11_takeClass a0 x1 M K) : (M.1 a0).1 = 12 := h.1
def PX11_takeCutter (a0 : Nat) (x1 : Int32) (M : Mem) (K : Int32 → Mem → Prop) : Prop :=
tS M 12 a0 (
  PX11_isLetter a0 M fun r1 =>
  xbr (r1 = (J 0)) (
    gI M 12 a0 15 fun v16 =>
    PX11_fails a0 (J 1) v16 M fun r17 M18 =>
    K r17 M18) (
    gR M 12 a0 1 fun q4 =>
    PX11_byteAt a0 M fun r5 =>
    aS M q4 (x1 + (J 10)) (r5 - (J 97)) fun M7 =>
    gI M7 12 a0 15 fun v8 =>
    pF M7 12 a0 15 (.int (v8 + (J 1))) fun M9 =>
    PX11_takeFigures a0 (x1 + (J 11)) M9 fun r10 M11 =>
    gR M11 12 a0 4 fun q12 =>
    gI M11 12 a0 16 fun v13 =>
    gI M11 12 a0 17 fun v14 =>
    aS M11 q12 v13 v14 fun M15 =>
    K r10 M15))
theorem tX11_takeCutter {a0 : Nat} {x1 : Int32} {M : Mem} {K : Int32 → Mem → Prop} (h : PX11_takeCutter a0 x1 M K) : (M.1 a0).1 = 12 := h.1
def JX11_takePoints_113 (K : Int32 → Mem → Prop) (M : Mem) (j0 : Nat) (j1 : Int32) (j2 : Int32) (j3 : Int32) (s0 : Int32) (s1 : Int32) (s2 : Nat) : Prop :=
  pF M 12 s2 15 (.int (s1 + s0)) fun M28 =>
  xbr ((J 0) < j2) (
    K j2 M28) (
    xbr (j3 = (J 0)) (
      K j2 M28) (
      PX11_takeCutter j0 j1 M28 fun r31 M32 =>
      K r31 M32))
def JX11_takePoints_98 (K : Int32 → Mem → Prop) (M : Mem) (j0 : Nat) (j1 : Int32) (j2 : Int32) (s0 : Int32) : Prop :=
  gI M 12 j0 15 fun v26 =>
  xbr (s0 = (J 0)) (
    JX11_takePoints_113 K M j0 j1 j2 s0 (J 0) v26 j0) (
    JX11_takePoints_113 K M j0 j1 j2 s0 (J 1) v26 j0)
def JX11_takePoints_97 (K : Int32 → Mem → Prop) (M : Mem) (j0 : Nat) (j1 : Int32) (j2 : Int32) : Prop :=
  JX11_takePoints_98 K M j0 j1 j2 (J 0)
def PX11_takePoints (a0 : Nat) (x1 : Int32) (M : Mem) (K : Int32 → Mem → Prop) : Prop :=
tS M 12 a0 (
  gR M 12 a0 3 fun q1 =>
  gI M 12 a0 16 fun v2 =>
  aS M q1 v2 (J 0) fun M3 =>
  gR M3 12 a0 4 fun q4 =>
  gI M3 12 a0 16 fun v5 =>
  aS M3 q4 v5 (J 0) fun M6 =>
  gR M6 12 a0 1 fun q7 =>
  aS M6 q7 (x1 + (J 10)) (J (-1)) fun M8 =>
  PX11_byteAt a0 M8 fun r9 =>
  xbr (r9 = (J 46)) (
    gI M8 12 a0 15 fun v12 =>
    pF M8 12 a0 15 (.int (v12 + (J 1))) fun M13 =>
    PX11_isFigure a0 M13 fun r14 =>
    xbr (r14 = (J 0)) (
      PX11_takeCutter a0 x1 M13 fun r17 M18 =>
      K r17 M18) (
      PX11_takeFigures a0 (x1 + (J 6)) M13 fun r19 M20 =>
      gR M20 12 a0 3 fun q21 =>
      gI M20 12 a0 16 fun v22 =>
      gI M20 12 a0 17 fun v23 =>
      aS M20 q21 v22 v23 fun M24 =>
      xbr (r19 = (J 0)) (
        PX11_byteAt a0 M24 fun r33 =>
        xbr (r33 = (J 46)) (
          JX11_takePoints_98 K M24 a0 x1 r19 (J 1)) (
          JX11_takePoints_97 K M24 a0 x1 r19)) (
        JX11_takePoints_97 K M24 a0 x1 r19))) (
    K (J 0) M8))
theorem tX11_takePoints {a0 : Nat} {x1 : Int32} {M : Mem} {K : Int32 → Mem → Prop} (h : PX11_takePoints a0 x1 M K) : (M.1 a0).1 = 12 := h.1
def CX11_takeYear_20 (K : Int32 → Mem → Prop) (u0 : Nat) (u1 : Int32) (u2 : Int32) (kc20 : (Mem × Int32 × Int32) → Prop) (M : Mem) (x3 : Int32) (x4 : Int32) : Prop :=
  xbr ((J 4) ≤ x4) (
    gR M 12 u0 1 fun q5 =>
    aS M q5 (u1 + (J 15)) x3 fun M6 =>
    PX11_in x3.toInt64 (LJ 1000) (LJ 2999) M6 fun r7 =>
    xbr (r7 = (J 0)) (
      PX11_fails u0 (J 3) u2 M6 fun r10 M11 =>
      K r10 M11) (
      K (J 0) M6)) (
    PX11_isFigure u0 M fun r12 =>
    xbr (r12 = (J 0)) (
      gI M 12 u0 15 fun v20 =>
      PX11_fails u0 (J 1) v20 M fun r21 M22 =>
      K r21 M22) (
      PX11_byteAt u0 M fun r15 =>
      ∃ y17 : Int32, y17 = ((((J 10) * x3) + r15) - (J 48)) ∧
      gI M 12 u0 15 fun v18 =>
      pF M 12 u0 15 (.int (v18 + (J 1))) fun M19 =>
      kc20 (M19, y17, (x4 + (J 1)))))
def BX11_takeYear_20 (K : Int32 → Mem → Prop) (u0 : Nat) (u1 : Int32) (u2 : Int32) (kc20 : (Mem × Int32 × Int32) → Prop) (s : (Mem × Int32 × Int32)) : Prop := CX11_takeYear_20 K u0 u1 u2 kc20 s.1 s.2.1 s.2.2
def PX11_takeYear (a0 : Nat) (x1 : Int32) (M : Mem) (K : Int32 → Mem → Prop) : Prop :=
tS M 12 a0 (
  gI M 12 a0 15 fun v1 =>
  pF M 12 a0 15 (.int (v1 + (J 1))) fun M2 =>
  gI M2 12 a0 15 fun v3 =>
  lp (BX11_takeYear_20 K a0 x1 v3) (M2, (J 0), (J 0)))
theorem tX11_takeYear {a0 : Nat} {x1 : Int32} {M : Mem} {K : Int32 → Mem → Prop} (h : PX11_takeYear a0 x1 M K) : (M.1 a0).1 = 12 := h.1
def PX11_takeWidth (a0 : Nat) (M : Mem) (K : Int32 → Mem → Prop) : Prop :=
tS M 12 a0 (
  gI M 12 a0 15 fun v1 =>
  pF M 12 a0 15 (.int (v1 + (J 1))) fun M2 =>
  PX11_byteAt a0 M2 fun r3 =>
  PX11_in r3.toInt64 (LJ 49) (LJ 57) M2 fun r5 =>
  xbr (r5 = (J 0)) (
    gI M2 12 a0 15 fun v15 =>
    PX11_fails a0 (J 1) v15 M2 fun r16 M17 =>
    K r16 M17) (
    gR M2 12 a0 5 fun q8 =>
    gI M2 12 a0 16 fun v9 =>
    PX11_byteAt a0 M2 fun r10 =>
    aS M2 q8 v9 (r10 - (J 48)) fun M12 =>
    gI M12 12 a0 15 fun v13 =>
    pF M12 12 a0 15 (.int (v13 + (J 1))) fun M14 =>
    K (J 0) M14))
theorem tX11_takeWidth {a0 : Nat} {M : Mem} {K : Int32 → Mem → Prop} (h : PX11_takeWidth a0 M K) : (M.1 a0).1 = 12 := h.1
def JX11_isSame_271 (K : Int32 → Prop) (kc160 : (Int32 × Int32) → Prop) (M : Mem) (u0 : Nat) (u1 : Int32) (u2 : Int32) (j4 : Int32) (s0 : Int32) : Prop :=
  xbr (s0 = (J 0)) (
    kc160 ((J 0), (j4 + (J 1)))) (
    gR M 12 u0 4 fun q11 =>
    aI M q11 u1 fun v12 =>
    xbr (v12 ≤ j4) (
      kc160 ((J 1), (j4 + (J 1)))) (
      gR M 12 u0 1 fun q14 =>
      aI M q14 ((((J 16) * u1) + (J 11)) + j4) fun v15 =>
      gR M 12 u0 1 fun q16 =>
      aI M q16 ((((J 16) * u2) + (J 11)) + j4) fun v17 =>
      xbr (v15 = v17) (
        kc160 ((J 1), (j4 + (J 1)))) (
        kc160 ((J 0), (j4 + (J 1))))))
def JX11_isSame_270 (K : Int32 → Prop) (kc160 : (Int32 × Int32) → Prop) (M : Mem) (u0 : Nat) (u1 : Int32) (u2 : Int32) (j4 : Int32) : Prop :=
  JX11_isSame_271 K kc160 M u0 u1 u2 j4 (J 0)
def JX11_isSame_266 (K : Int32 → Prop) (kc160 : (Int32 × Int32) → Prop) (M : Mem) (u0 : Nat) (u1 : Int32) (u2 : Int32) (j4 : Int32) : Prop :=
  JX11_isSame_271 K kc160 M u0 u1 u2 j4 (J 1)
def JX11_isSame_217 (K : Int32 → Prop) (kc160 : (Int32 × Int32) → Prop) (M : Mem) (u0 : Nat) (u1 : Int32) (u2 : Int32) (j4 : Int32) (s0 : Int32) : Prop :=
  xbr (s0 = (J 0)) (
    JX11_isSame_270 K kc160 M u0 u1 u2 j4) (
    gR M 12 u0 3 fun q19 =>
    aI M q19 u1 fun v20 =>
    xbr (v20 ≤ j4) (
      JX11_isSame_266 K kc160 M u0 u1 u2 j4) (
      gR M 12 u0 1 fun q22 =>
      aI M q22 ((((J 16) * u1) + (J 6)) + j4) fun v23 =>
      gR M 12 u0 1 fun q24 =>
      aI M q24 ((((J 16) * u2) + (J 6)) + j4) fun v25 =>
      xbr (v23 = v25) (
        JX11_isSame_266 K kc160 M u0 u1 u2 j4) (
        JX11_isSame_270 K kc160 M u0 u1 u2 j4)))
def JX11_isSame_216 (K : Int32 → Prop) (kc160 : (Int32 × Int32) → Prop) (M : Mem) (u0 : Nat) (u1 : Int32) (u2 : Int32) (j4 : Int32) : Prop :=
  JX11_isSame_217 K kc160 M u0 u1 u2 j4 (J 0)
def JX11_isSame_212 (K : Int32 → Prop) (kc160 : (Int32 × Int32) → Prop) (M : Mem) (u0 : Nat) (u1 : Int32) (u2 : Int32) (j4 : Int32) : Prop :=
  JX11_isSame_217 K kc160 M u0 u1 u2 j4 (J 1)
def CX11_isSame_160 (K : Int32 → Prop) (M : Mem) (u0 : Nat) (u1 : Int32) (u2 : Int32) (kc160 : (Int32 × Int32) → Prop) (x3 : Int32) (x4 : Int32) : Prop :=
  xbr ((J 4) ≤ x4) (
    isB x3 ∧ K x3) (
    xbr (x3 = (J 0)) (
      JX11_isSame_216 K kc160 M u0 u1 u2 x4) (
      gR M 12 u0 2 fun q27 =>
      aI M q27 u1 fun v28 =>
      xbr (v28 ≤ x4) (
        JX11_isSame_212 K kc160 M u0 u1 u2 x4) (
        gR M 12 u0 1 fun q30 =>
        aI M q30 ((((J 16) * u1) + (J 2)) + x4) fun v31 =>
        gR M 12 u0 1 fun q32 =>
        aI M q32 ((((J 16) * u2) + (J 2)) + x4) fun v33 =>
        xbr (v31 = v33) (
          JX11_isSame_212 K kc160 M u0 u1 u2 x4) (
          JX11_isSame_216 K kc160 M u0 u1 u2 x4))))
def BX11_isSame_160 (K : Int32 → Prop) (M : Mem) (u0 : Nat) (u1 : Int32) (u2 : Int32) (kc160 : (Int32 × Int32) → Prop) (s : (Int32 × Int32)) : Prop := CX11_isSame_160 K M u0 u1 u2 kc160 s.1 s.2
def CX11_isSame_108 (K : Int32 → Prop) (M : Mem) (u0 : Nat) (u1 : Int32) (u2 : Int32) (kc108 : (Int32 × Int32) → Prop) (x3 : Int32) (x4 : Int32) : Prop :=
  xbr ((J 2) ≤ x4) (
    lp (BX11_isSame_160 K M u0 u1 u2) (x3, (J 0))) (
    xbr (x3 = (J 0)) (
      kc108 ((J 0), (x4 + (J 1)))) (
      gR M 12 u0 1 fun q36 =>
      aI M q36 (((J 16) * u1) + x4) fun v37 =>
      gR M 12 u0 1 fun q38 =>
      aI M q38 (((J 16) * u2) + x4) fun v39 =>
      xbr (v37 = v39) (
        kc108 ((J 1), (x4 + (J 1)))) (
        kc108 ((J 0), (x4 + (J 1))))))
def BX11_isSame_108 (K : Int32 → Prop) (M : Mem) (u0 : Nat) (u1 : Int32) (u2 : Int32) (kc108 : (Int32 × Int32) → Prop) (s : (Int32 × Int32)) : Prop := CX11_isSame_108 K M u0 u1 u2 kc108 s.1 s.2
def JX11_isSame_104 (K : Int32 → Prop) (M : Mem) (j0 : Nat) (j1 : Int32) (j2 : Int32) (s0 : Int32) : Prop :=
  lp (BX11_isSame_108 K M j0 j1 j2) (s0, (J 0))
def JX11_isSame_103 (K : Int32 → Prop) (M : Mem) (j0 : Nat) (j1 : Int32) (j2 : Int32) : Prop :=
  JX11_isSame_104 K M j0 j1 j2 (J 0)
def PX11_isSame (a0 : Nat) (x1 : Int32) (x2 : Int32) (M : Mem) (K : Int32 → Prop) : Prop :=
tS M 12 a0 (
  gR M 12 a0 2 fun q1 =>
  aI M q1 x1 fun v2 =>
  gR M 12 a0 2 fun q3 =>
  aI M q3 x2 fun v4 =>
  xbr (v2 = v4) (
    gR M 12 a0 3 fun q41 =>
    aI M q41 x1 fun v42 =>
    gR M 12 a0 3 fun q43 =>
    aI M q43 x2 fun v44 =>
    xbr (v42 = v44) (
      gR M 12 a0 4 fun q46 =>
      aI M q46 x1 fun v47 =>
      gR M 12 a0 4 fun q48 =>
      aI M q48 x2 fun v49 =>
      xbr (v47 = v49) (
        gR M 12 a0 1 fun q51 =>
        aI M q51 (((J 16) * x1) + (J 10)) fun v52 =>
        gR M 12 a0 1 fun q53 =>
        aI M q53 (((J 16) * x2) + (J 10)) fun v54 =>
        xbr (v52 = v54) (
          gR M 12 a0 1 fun q56 =>
          aI M q56 (((J 16) * x1) + (J 15)) fun v57 =>
          gR M 12 a0 1 fun q58 =>
          aI M q58 (((J 16) * x2) + (J 15)) fun v59 =>
          xbr (v57 = v59) (
            JX11_isSame_104 K M a0 x1 x2 (J 1)) (
            JX11_isSame_103 K M a0 x1 x2)) (
          JX11_isSame_103 K M a0 x1 x2)) (
        JX11_isSame_103 K M a0 x1 x2)) (
      JX11_isSame_103 K M a0 x1 x2)) (
    JX11_isSame_103 K M a0 x1 x2))
theorem tX11_isSame {a0 : Nat} {x1 : Int32} {x2 : Int32} {M : Mem} {K : Int32 → Prop} (h : PX11_isSame a0 x1 x2 M K) : (M.1 a0).1 = 12 := h.1
def CX11_isTold_4 (K : Int32 → Prop) (M : Mem) (u0 : Nat) (kc4 : (Int32 × Int32) → Prop) (x1 : Int32) (x2 : Int32) : Prop :=
  gI M 12 u0 16 fun v1 =>
  xbr (v1 ≤ x2) (
    isB x1 ∧ K x1) (
    xbr (x1 = (J 0)) (
      gI M 12 u0 16 fun v4 =>
      PX11_isSame u0 x2 v4 M fun r5 =>
      xbr (r5 = (J 0)) (
        kc4 ((J 0), (x2 + (J 1)))) (
        kc4 ((J 1), (x2 + (J 1))))) (
      kc4 ((J 1), (x2 + (J 1)))))
def BX11_isTold_4 (K : Int32 → Prop) (M : Mem) (u0 : Nat) (kc4 : (Int32 × Int32) → Prop) (s : (Int32 × Int32)) : Prop := CX11_isTold_4 K M u0 kc4 s.1 s.2
def PX11_isTold (a0 : Nat) (M : Mem) (K : Int32 → Prop) : Prop :=
tS M 12 a0 (
  lp (BX11_isTold_4 K M a0) ((J 0), (J 0)))
theorem tX11_isTold {a0 : Nat} {M : Mem} {K : Int32 → Prop} (h : PX11_isTold a0 M K) : (M.1 a0).1 = 12 := h.1
def JX11_takeBook_163 (K : Int32 → Mem → Prop) (M : Mem) (j0 : Nat) (j2 : Int32) : Prop :=
  xbr (j2 ≤ (J 0)) (
    PX11_here j0 M fun r28 M29 =>
    xbr (r28 = (J 59)) (
      PX11_isTold j0 M29 fun r31 =>
      xbr (r31 = (J 0)) (
        gI M29 12 j0 15 fun v34 =>
        pF M29 12 j0 15 (.int (v34 + (J 1))) fun M35 =>
        gI M35 12 j0 16 fun v36 =>
        pF M35 12 j0 16 (.int (v36 + (J 1))) fun M37 =>
        K (J 0) M37) (
        gI M29 12 j0 15 fun v38 =>
        PX11_fails j0 (J 5) v38 M29 fun r39 M40 =>
        K r39 M40)) (
      gI M29 12 j0 15 fun v41 =>
      PX11_fails j0 (J 1) v41 M29 fun r42 M43 =>
      K r42 M43)) (
    K j2 M)
def JX11_takeBook_141 (K : Int32 → Mem → Prop) (M : Mem) (j0 : Nat) (j2 : Int32) (j3 : Int32) : Prop :=
  xbr (j2 = (J 0)) (
    PX11_here j0 M fun r44 M45 =>
    xbr (r44 = (J 119)) (
      xbr (j3 = (J 0)) (
        JX11_takeBook_163 K M45 j0 j2) (
        PX11_takeWidth j0 M45 fun r48 M49 =>
        JX11_takeBook_163 K M49 j0 r48)) (
      JX11_takeBook_163 K M45 j0 j2)) (
    JX11_takeBook_163 K M j0 j2)
def JX11_takeBook_140 (K : Int32 → Mem → Prop) (M : Mem) (j0 : Nat) (j2 : Int32) (s0 : Int32) : Prop :=
  JX11_takeBook_141 K M j0 j2 s0
def JX11_takeBook_102 (K : Int32 → Mem → Prop) (M : Mem) (j0 : Nat) (j1 : Int32) (j2 : Int32) (s0 : Int32) : Prop :=
  xbr (j2 = (J 0)) (
    PX11_here j0 M fun r50 M51 =>
    xbr (r50 = (J 121)) (
      xbr (s0 = (J 0)) (
        JX11_takeBook_141 K M51 j0 j2 s0) (
        PX11_takeYear j0 j1 M51 fun r54 M55 =>
        PX11_byteAt j0 M55 fun r56 =>
        xbr (r56 = (J 32)) (
          JX11_takeBook_140 K M55 j0 r54 (J 1)) (
          JX11_takeBook_140 K M55 j0 r54 (J 0)))) (
      JX11_takeBook_141 K M51 j0 j2 s0)) (
    JX11_takeBook_141 K M j0 j2 s0)
def JX11_takeBook_42 (K : Int32 → Mem → Prop) (M : Mem) (j0 : Nat) (j1 : Int32) (s0 : Int32) : Prop :=
  xbr (s0 ≤ (J 0)) (
    gR M 12 j0 2 fun q11 =>
    gI M 12 j0 16 fun v12 =>
    gI M 12 j0 17 fun v13 =>
    aS M q11 v12 v13 fun M14 =>
    PX11_takePoints j0 j1 M14 fun r15 M16 =>
    gR M16 12 j0 1 fun q17 =>
    aS M16 q17 (j1 + (J 15)) (J (-1)) fun M18 =>
    gR M18 12 j0 5 fun q19 =>
    gI M18 12 j0 16 fun v20 =>
    aS M18 q19 v20 (J 2) fun M21 =>
    PX11_byteAt j0 M21 fun r22 =>
    xbr (r22 = (J 32)) (
      JX11_takeBook_102 K M21 j0 j1 r15 (J 1)) (
      JX11_takeBook_102 K M21 j0 j1 r15 (J 0))) (
    K s0 M)
def JX11_takeBook_23 (K : Int32 → Mem → Prop) (M : Mem) (j0 : Nat) (j1 : Int32) (s0 : Int32) (s1 : Nat) : Prop :=
  PX11_takeClass s1 s0 M fun r5 M6 =>
  xbr (r5 ≤ (J 0)) (
    PX11_takeFigures j0 (j1 + (J 2)) M6 fun r8 M9 =>
    JX11_takeBook_42 K M9 j0 j1 r8) (
    JX11_takeBook_42 K M6 j0 j1 r5)
def PX11_takeBook (a0 : Nat) (M : Mem) (K : Int32 → Mem → Prop) : Prop :=
tS M 12 a0 (
  gI M 12 a0 16 fun v1 =>
  ∃ y2 : Int32, y2 = ((J 16) * v1) ∧
  gI M 12 a0 16 fun v3 =>
  xbr ((J 24) ≤ v3) (
    JX11_takeBook_23 K M a0 y2 (J 0) a0) (
    JX11_takeBook_23 K M a0 y2 y2 a0))
theorem tX11_takeBook {a0 : Nat} {M : Mem} {K : Int32 → Mem → Prop} (h : PX11_takeBook a0 M K) : (M.1 a0).1 = 12 := h.1
def JX11_books_39 (K : Int32 → Mem → Prop) (M : Mem) (j0 : Nat) (j1 : Int32) : Prop :=
  pF M 12 j0 13 (.int (J 0)) fun M6 =>
  xbr (j1 ≤ (J 0)) (
    gI M6 12 j0 16 fun v8 =>
    pF M6 12 j0 0 (.int v8) fun M9 =>
    gI M9 12 j0 0 fun v10 =>
    K v10 M9) (
    K ((J (-10)) - j1) M6)
def CX11_books_20 (K : Int32 → Mem → Prop) (u0 : Nat) (kc20 : (Mem × Int32) → Prop) (M : Mem) (x1 : Int32) : Prop :=
  xbr (x1 = (J 0)) (
    PX11_here u0 M fun r11 M12 =>
    xbr (r11 < (J 0)) (
      JX11_books_39 K M12 u0 x1) (
      PX11_takeBook u0 M12 fun r14 M15 =>
      kc20 (M15, r14))) (
    JX11_books_39 K M u0 x1)
def BX11_books_20 (K : Int32 → Mem → Prop) (u0 : Nat) (kc20 : (Mem × Int32) → Prop) (s : (Mem × Int32)) : Prop := CX11_books_20 K u0 kc20 s.1 s.2
def PX11_books (a0 : Nat) (M : Mem) (K : Int32 → Mem → Prop) : Prop :=
tS M 12 a0 (
  pF M 12 a0 14 (.int (J (-1))) fun M1 =>
  pF M1 12 a0 15 (.int (J 0)) fun M2 =>
  gI M2 12 a0 0 fun v3 =>
  pF M2 12 a0 16 (.int v3) fun M4 =>
  lp (BX11_books_20 K a0) (M4, (J 0)))
theorem tX11_books {a0 : Nat} {M : Mem} {K : Int32 → Mem → Prop} (h : PX11_books a0 M K) : (M.1 a0).1 = 12 := h.1
def PX11_fault (a0 : Nat) (M : Mem) (K : Int32 → Prop) : Prop :=
tS M 12 a0 (
  gI M 12 a0 14 fun v1 =>
  K v1)
theorem tX11_fault {a0 : Nat} {M : Mem} {K : Int32 → Prop} (h : PX11_fault a0 M K) : (M.1 a0).1 = 12 := h.1
def CX11_whole_5 (K : Int32 → Prop) (M : Mem) (u0 : Nat) (u1 : Int32) (u2 : Int32) (kc5 : (Int32 × Int32) → Prop) (x3 : Int32) (x4 : Int32) : Prop :=
  xbr (u2 ≤ x4) (
    K x3) (
    aI M u0 (u1 + x4) fun v2 =>
    ∃ y3 : Int32, y3 = (((J 10) * x3) + v2) ∧
    kc5 (y3, (x4 + (J 1))))
def BX11_whole_5 (K : Int32 → Prop) (M : Mem) (u0 : Nat) (u1 : Int32) (u2 : Int32) (kc5 : (Int32 × Int32) → Prop) (s : (Int32 × Int32)) : Prop := CX11_whole_5 K M u0 u1 u2 kc5 s.1 s.2
def PX11_whole (a0 : Nat) (x1 : Int32) (x2 : Int32) (M : Mem) (K : Int32 → Prop) : Prop :=
  lp (BX11_whole_5 K M a0 x1 x2) ((J 0), (J 0))
def CX11_placeOf_4 (K : Int32 → Prop) (M : Mem) (u0 : Nat) (u1 : Int32) (kc4 : (Int32 × Int32) → Prop) (x2 : Int32) (x3 : Int32) : Prop :=
  gI M 12 u0 7 fun v1 =>
  xbr (v1 ≤ x3) (
    K x2) (
    gR M 12 u0 8 fun q3 =>
    aI M q3 x3 fun v4 =>
    xbr (v4 = u1) (
      kc4 (x3, (x3 + (J 1)))) (
      kc4 (x2, (x3 + (J 1)))))
def BX11_placeOf_4 (K : Int32 → Prop) (M : Mem) (u0 : Nat) (u1 : Int32) (kc4 : (Int32 × Int32) → Prop) (s : (Int32 × Int32)) : Prop := CX11_placeOf_4 K M u0 u1 kc4 s.1 s.2
def PX11_placeOf (a0 : Nat) (x1 : Int32) (M : Mem) (K : Int32 → Prop) : Prop :=
tS M 12 a0 (
  lp (BX11_placeOf_4 K M a0 x1) ((J (-1)), (J 0)))
theorem tX11_placeOf {a0 : Nat} {x1 : Int32} {M : Mem} {K : Int32 → Prop} (h : PX11_placeOf a0 x1 M K) : (M.1 a0).1 = 12 := h.1
def CX11_shelfOf_9 (K : Int32 → Prop) (M : Mem) (u0 : Nat) (u1 : Int32) (kc9 : (Int32 × Int32) → Prop) (x2 : Int32) (x3 : Int32) : Prop :=
  xbr (u1 < x3) (
    K x2) (
    gR M 12 u0 9 fun q4 =>
    aI M q4 (x2 + (J 1)) fun v5 =>
    ∃ y6 : Int32, y6 = (x3 + v5) ∧
    kc9 ((x2 + (J 1)), y6))
def BX11_shelfOf_9 (K : Int32 → Prop) (M : Mem) (u0 : Nat) (u1 : Int32) (kc9 : (Int32 × Int32) → Prop) (s : (Int32 × Int32)) : Prop := CX11_shelfOf_9 K M u0 u1 kc9 s.1 s.2
def PX11_shelfOf (a0 : Nat) (x1 : Int32) (M : Mem) (K : Int32 → Prop) : Prop :=
tS M 12 a0 (
  gR M 12 a0 9 fun q1 =>
  aI M q1 (J 0) fun v2 =>
  lp (BX11_shelfOf_9 K M a0 x1) ((J 0), v2))
theorem tX11_shelfOf {a0 : Nat} {x1 : Int32} {M : Mem} {K : Int32 → Prop} (h : PX11_shelfOf a0 x1 M K) : (M.1 a0).1 = 12 := h.1
def CX11_firstOf_4 (K : Int32 → Prop) (M : Mem) (u0 : Nat) (u1 : Int32) (kc4 : (Int32 × Int32) → Prop) (x2 : Int32) (x3 : Int32) : Prop :=
  xbr (u1 ≤ x3) (
    K x2) (
    gR M 12 u0 9 fun q2 =>
    aI M q2 x3 fun v3 =>
    ∃ y4 : Int32, y4 = (x2 + v3) ∧
    kc4 (y4, (x3 + (J 1))))
def BX11_firstOf_4 (K : Int32 → Prop) (M : Mem) (u0 : Nat) (u1 : Int32) (kc4 : (Int32 × Int32) → Prop) (s : (Int32 × Int32)) : Prop := CX11_firstOf_4 K M u0 u1 kc4 s.1 s.2
def PX11_firstOf (a0 : Nat) (x1 : Int32) (M : Mem) (K : Int32 → Prop) : Prop :=
tS M 12 a0 (
  lp (BX11_firstOf_4 K M a0 x1) ((J 0), (J 0)))
theorem tX11_firstOf {a0 : Nat} {x1 : Int32} {M : Mem} {K : Int32 → Prop} (h : PX11_firstOf a0 x1 M K) : (M.1 a0).1 = 12 := h.1
def PX11_book (a0 : Nat) (x1 : Int32) (x2 : Int32) (M : Mem) (K : Int32 → Prop) : Prop :=
tS M 12 a0 (
  PX11_isBook a0 x1 M fun r1 =>
  xbr (r1 = (J 0)) (
    K (J (-1001))) (
    PX11_placeOf a0 x1 M fun r4 =>
    xbr (x2 = (J 0)) (
      gR M 12 a0 1 fun q7 =>
      gR M 12 a0 2 fun q8 =>
      aI M q8 x1 fun v9 =>
      PX11_whole q7 (((J 16) * x1) + (J 2)) v9 M fun r10 =>
      K r10) (
    xbr (x2 = (J 1)) (
      gR M 12 a0 1 fun q13 =>
      aI M q13 (((J 16) * x1) + (J 15)) fun v14 =>
      K v14) (
    xbr (x2 = (J 2)) (
      gR M 12 a0 5 fun q16 =>
      aI M q16 x1 fun v17 =>
      K v17) (
    xbr (x2 = (J 3)) (
      xbr ((J 0) ≤ r4) (
        PX11_shelfOf a0 r4 M fun r20 =>
        K r20) (
        K (J (-1)))) (
    xbr (x2 = (J 4)) (
      xbr ((J 0) ≤ r4) (
        PX11_shelfOf a0 r4 M fun r24 =>
        PX11_firstOf a0 r24 M fun r26 =>
        K (r4 - r26)) (
        K (J (-1)))) (
    K (J (-1002)))))))))
theorem tX11_book {a0 : Nat} {x1 : Int32} {x2 : Int32} {M : Mem} {K : Int32 → Prop} (h : PX11_book a0 x1 x2 M K) : (M.1 a0).1 = 12 := h.1
def PX11_write (a0 : Nat) (x1 : Int32) (M : Mem) (K : Mem → Prop) : Prop :=
tS M 12 a0 (
  gR M 12 a0 18 fun q1 =>
  gI M 12 a0 19 fun v2 =>
  aS M q1 v2 x1 fun M3 =>
  gI M3 12 a0 19 fun v4 =>
  pF M3 12 a0 19 (.int (v4 + (J 1))) fun M5 =>
  K M5)
theorem tX11_write {a0 : Nat} {x1 : Int32} {M : Mem} {K : Mem → Prop} (h : PX11_write a0 x1 M K) : (M.1 a0).1 = 12 := h.1
def CX11_writeFigures_2 (K : Mem → Prop) (u0 : Nat) (u1 : Int32) (u2 : Int32) (kc2 : (Mem × Int32) → Prop) (M : Mem) (x3 : Int32) : Prop :=
  xbr (u2 ≤ x3) (
    K M) (
    gR M 12 u0 1 fun q2 =>
    aI M q2 (u1 + x3) fun v3 =>
    PX11_write u0 ((J 48) + v3) M fun M5 =>
    kc2 (M5, (x3 + (J 1))))
def BX11_writeFigures_2 (K : Mem → Prop) (u0 : Nat) (u1 : Int32) (u2 : Int32) (kc2 : (Mem × Int32) → Prop) (s : (Mem × Int32)) : Prop := CX11_writeFigures_2 K u0 u1 u2 kc2 s.1 s.2
def PX11_writeFigures (a0 : Nat) (x1 : Int32) (x2 : Int32) (M : Mem) (K : Mem → Prop) : Prop :=
tS M 12 a0 (
  lp (BX11_writeFigures_2 K a0 x1 x2) (M, (J 0)))
theorem tX11_writeFigures {a0 : Nat} {x1 : Int32} {x2 : Int32} {M : Mem} {K : Mem → Prop} (h : PX11_writeFigures a0 x1 x2 M K) : (M.1 a0).1 = 12 := h.1
def JX11_writeMark_139 (K : Mem → Prop) (M : Mem) (j0 : Nat) (j2 : Int32) : Prop :=
  gR M 12 j0 1 fun q20 =>
  aI M q20 (j2 + (J 15)) fun v21 =>
  xbr (v21 < (J 0)) (
    K M) (
    PX11_write j0 (J 32) M fun M24 =>
    PX11_write j0 (J 121) M24 fun M26 =>
    gR M26 12 j0 1 fun q27 =>
    aI M26 q27 (j2 + (J 15)) fun v28 =>
    PX11_write j0 ((J 48) + (v28 / (J 1000))) M26 fun M30 =>
    gR M30 12 j0 1 fun q31 =>
    aI M30 q31 (j2 + (J 15)) fun v32 =>
    PX11_write j0 ((J 48) + ((v32 / (J 100)) - (v32 / (J 100)) / (J 10) * (J 10))) M30 fun M34 =>
    gR M34 12 j0 1 fun q35 =>
    aI M34 q35 (j2 + (J 15)) fun v36 =>
    PX11_write j0 ((J 48) + ((v36 / (J 10)) - (v36 / (J 10)) / (J 10) * (J 10))) M34 fun M38 =>
    gR M38 12 j0 1 fun q39 =>
    aI M38 q39 (j2 + (J 15)) fun v40 =>
    PX11_write j0 ((J 48) + (v40 - v40 / (J 10) * (J 10))) M38 fun M42 =>
    K M42)
def JX11_writeMark_91 (K : Mem → Prop) (M : Mem) (j0 : Nat) (j1 : Int32) (j2 : Int32) : Prop :=
  gR M 12 j0 1 fun q17 =>
  aI M q17 (j2 + (J 10)) fun v18 =>
  xbr (v18 < (J 0)) (
    JX11_writeMark_139 K M j0 j2) (
    PX11_write j0 (J 46) M fun M44 =>
    gR M44 12 j0 1 fun q45 =>
    aI M44 q45 (j2 + (J 10)) fun v46 =>
    PX11_write j0 ((J 97) + v46) M44 fun M48 =>
    gR M48 12 j0 4 fun q49 =>
    aI M48 q49 j1 fun v50 =>
    PX11_writeFigures j0 (j2 + (J 11)) v50 M48 fun M52 =>
    JX11_writeMark_139 K M52 j0 j2)
def JX11_writeMark_49 (K : Mem → Prop) (M : Mem) (j0 : Nat) (j1 : Int32) (j2 : Int32) : Prop :=
  gR M 12 j0 2 fun q10 =>
  aI M q10 j1 fun v11 =>
  PX11_writeFigures j0 (j2 + (J 2)) v11 M fun M13 =>
  gR M13 12 j0 3 fun q14 =>
  aI M13 q14 j1 fun v15 =>
  xbr (v15 ≤ (J 0)) (
    JX11_writeMark_91 K M13 j0 j1 j2) (
    PX11_write j0 (J 46) M13 fun M54 =>
    gR M54 12 j0 3 fun q55 =>
    aI M54 q55 j1 fun v56 =>
    PX11_writeFigures j0 (j2 + (J 6)) v56 M54 fun M58 =>
    JX11_writeMark_91 K M58 j0 j1 j2)
def PX11_writeMark (a0 : Nat) (x1 : Int32) (M : Mem) (K : Mem → Prop) : Prop :=
tS M 12 a0 (
  ∃ y1 : Int32, y1 = ((J 16) * x1) ∧
  pF M 12 a0 19 (.int (J 0)) fun M2 =>
  gR M2 12 a0 1 fun q3 =>
  aI M2 q3 y1 fun v4 =>
  PX11_write a0 ((J 97) + v4) M2 fun M6 =>
  gR M6 12 a0 1 fun q7 =>
  aI M6 q7 (y1 + (J 1)) fun v8 =>
  xbr (v8 < (J 0)) (
    JX11_writeMark_49 K M6 a0 x1 y1) (
    gR M6 12 a0 1 fun q59 =>
    aI M6 q59 (y1 + (J 1)) fun v60 =>
    PX11_write a0 ((J 97) + v60) M6 fun M62 =>
    JX11_writeMark_49 K M62 a0 x1 y1))
theorem tX11_writeMark {a0 : Nat} {x1 : Int32} {M : Mem} {K : Mem → Prop} (h : PX11_writeMark a0 x1 M K) : (M.1 a0).1 = 12 := h.1
def PX11_mark (a0 : Nat) (x1 : Int32) (x2 : Int32) (M : Mem) (K : Int32 → Mem → Prop) : Prop :=
tS M 12 a0 (
  PX11_isBook a0 x1 M fun r1 =>
  xbr (r1 = (J 0)) (
    K (J (-1001)) M) (
    PX11_writeMark a0 x1 M fun M5 =>
    xbr (x2 = (J (-1))) (
      gI M5 12 a0 19 fun v13 =>
      K v13 M5) (
      gI M5 12 a0 19 fun v7 =>
      PX11_in x2.toInt64 (LJ 0) (v7 - (J 1)).toInt64 M5 fun r8 =>
      xbr (r8 = (J 0)) (
        K (J (-1)) M5) (
        gR M5 12 a0 18 fun q11 =>
        aI M5 q11 x2 fun v12 =>
        K v12 M5))))
theorem tX11_mark {a0 : Nat} {x1 : Int32} {x2 : Int32} {M : Mem} {K : Int32 → Mem → Prop} (h : PX11_mark a0 x1 x2 M K) : (M.1 a0).1 = 12 := h.1
def CX11_byFigures_3 (K : Int32 → Prop) (M : Mem) (u0 : Nat) (u1 : Int32) (u2 : Int32) (u3 : Int32) (u4 : Int32) (kc3 : Int32 → Prop) (x5 : Int32) : Prop :=
  xbr (u2 ≤ x5) (
    K (u2 - u4)) (
    xbr (u4 ≤ x5) (
      K (u2 - u4)) (
      gR M 12 u0 1 fun q3 =>
      aI M q3 (u1 + x5) fun v4 =>
      gR M 12 u0 1 fun q5 =>
      aI M q5 (u3 + x5) fun v6 =>
      xbr (v4 = v6) (
        kc3 (x5 + (J 1))) (
        gR M 12 u0 1 fun q8 =>
        aI M q8 (u1 + x5) fun v9 =>
        gR M 12 u0 1 fun q10 =>
        aI M q10 (u3 + x5) fun v11 =>
        K (v9 - v11))))
def BX11_byFigures_3 (K : Int32 → Prop) (M : Mem) (u0 : Nat) (u1 : Int32) (u2 : Int32) (u3 : Int32) (u4 : Int32) (kc3 : Int32 → Prop) (s : Int32) : Prop := CX11_byFigures_3 K M u0 u1 u2 u3 u4 kc3 s
def PX11_byFigures (a0 : Nat) (x1 : Int32) (x2 : Int32) (x3 : Int32) (x4 : Int32) (M : Mem) (K : Int32 → Prop) : Prop :=
tS M 12 a0 (
  lp (BX11_byFigures_3 K M a0 x1 x2 x3 x4) (J 0))
theorem tX11_byFigures {a0 : Nat} {x1 : Int32} {x2 : Int32} {x3 : Int32} {x4 : Int32} {M : Mem} {K : Int32 → Prop} (h : PX11_byFigures a0 x1 x2 x3 x4 M K) : (M.1 a0).1 = 12 := h.1
def PX11_byClass (a0 : Nat) (x1 : Int32) (x2 : Int32) (x3 : Int32) (M : Mem) (K : Int32 → Prop) : Prop :=
tS M 12 a0 (
  gR M 12 a0 1 fun q1 =>
  aI M q1 ((J 16) * x1) fun v2 =>
  gR M 12 a0 1 fun q3 =>
  aI M q3 ((J 16) * x2) fun v4 =>
  ∃ y5 : Int32, y5 = (v2 - v4) ∧
  xbr (y5 = (J 0)) (
    xbr (x3 = (J 3)) (
      K y5) (
      gR M 12 a0 1 fun q8 =>
      aI M q8 (((J 16) * x1) + (J 1)) fun v9 =>
      gR M 12 a0 1 fun q10 =>
      aI M q10 (((J 16) * x2) + (J 1)) fun v11 =>
      K (v9 - v11))) (
    K y5))
theorem tX11_byClass {a0 : Nat} {x1 : Int32} {x2 : Int32} {x3 : Int32} {M : Mem} {K : Int32 → Prop} (h : PX11_byClass a0 x1 x2 x3 M K) : (M.1 a0).1 = 12 := h.1
def PX11_byNumber (a0 : Nat) (x1 : Int32) (x2 : Int32) (x3 : Int32) (M : Mem) (K : Int32 → Prop) : Prop :=
tS M 12 a0 (
  xbr (x3 = (J 4)) (
    gR M 12 a0 2 fun q12 =>
    aI M q12 x1 fun v13 =>
    gR M 12 a0 2 fun q14 =>
    aI M q14 x2 fun v15 =>
    PX11_byFigures a0 (((J 16) * x1) + (J 2)) v13 (((J 16) * x2) + (J 2)) v15 M fun r16 =>
    K r16) (
    gR M 12 a0 1 fun q2 =>
    gR M 12 a0 2 fun q3 =>
    aI M q3 x1 fun v4 =>
    PX11_whole q2 (((J 16) * x1) + (J 2)) v4 M fun r5 =>
    gR M 12 a0 1 fun q7 =>
    gR M 12 a0 2 fun q8 =>
    aI M q8 x2 fun v9 =>
    PX11_whole q7 (((J 16) * x2) + (J 2)) v9 M fun r10 =>
    K (r5 - r10)))
theorem tX11_byNumber {a0 : Nat} {x1 : Int32} {x2 : Int32} {x3 : Int32} {M : Mem} {K : Int32 → Prop} (h : PX11_byNumber a0 x1 x2 x3 M K) : (M.1 a0).1 = 12 := h.1
def PX11_byDecimals (a0 : Nat) (x1 : Int32) (x2 : Int32) (x3 : Int32) (M : Mem) (K : Int32 → Prop) : Prop :=
tS M 12 a0 (
  xbr (x3 = (J 1)) (
    gR M 12 a0 1 fun q8 =>
    gR M 12 a0 3 fun q9 =>
    aI M q9 x1 fun v10 =>
    PX11_whole q8 (((J 16) * x1) + (J 6)) v10 M fun r11 =>
    gR M 12 a0 1 fun q13 =>
    gR M 12 a0 3 fun q14 =>
    aI M q14 x2 fun v15 =>
    PX11_whole q13 (((J 16) * x2) + (J 6)) v15 M fun r16 =>
    K (r11 - r16)) (
    gR M 12 a0 3 fun q2 =>
    aI M q2 x1 fun v3 =>
    gR M 12 a0 3 fun q4 =>
    aI M q4 x2 fun v5 =>
    PX11_byFigures a0 (((J 16) * x1) + (J 6)) v3 (((J 16) * x2) + (J 6)) v5 M fun r6 =>
    K r6))
theorem tX11_byDecimals {a0 : Nat} {x1 : Int32} {x2 : Int32} {x3 : Int32} {M : Mem} {K : Int32 → Prop} (h : PX11_byDecimals a0 x1 x2 x3 M K) : (M.1 a0).1 = 12 := h.1
def PX11_byCutter (a0 : Nat) (x1 : Int32) (x2 : Int32) (x3 : Int32) (M : Mem) (K : Int32 → Prop) : Prop :=
tS M 12 a0 (
  gR M 12 a0 1 fun q1 =>
  aI M q1 (((J 16) * x1) + (J 10)) fun v2 =>
  gR M 12 a0 1 fun q3 =>
  aI M q3 (((J 16) * x2) + (J 10)) fun v4 =>
  ∃ y5 : Int32, y5 = (v2 - v4) ∧
  xbr (y5 = (J 0)) (
    xbr (x3 = (J 2)) (
      gR M 12 a0 1 fun q14 =>
      gR M 12 a0 4 fun q15 =>
      aI M q15 x1 fun v16 =>
      PX11_whole q14 (((J 16) * x1) + (J 11)) v16 M fun r17 =>
      gR M 12 a0 1 fun q19 =>
      gR M 12 a0 4 fun q20 =>
      aI M q20 x2 fun v21 =>
      PX11_whole q19 (((J 16) * x2) + (J 11)) v21 M fun r22 =>
      K (r17 - r22)) (
      gR M 12 a0 4 fun q8 =>
      aI M q8 x1 fun v9 =>
      gR M 12 a0 4 fun q10 =>
      aI M q10 x2 fun v11 =>
      PX11_byFigures a0 (((J 16) * x1) + (J 11)) v9 (((J 16) * x2) + (J 11)) v11 M fun r12 =>
      K r12)) (
    K y5))
theorem tX11_byCutter {a0 : Nat} {x1 : Int32} {x2 : Int32} {x3 : Int32} {M : Mem} {K : Int32 → Prop} (h : PX11_byCutter a0 x1 x2 x3 M K) : (M.1 a0).1 = 12 := h.1
def JX11_isAhead_101 (K : Int32 → Prop) (M : Mem) (j1 : Int32) (j2 : Int32) (s0 : Int32) : Prop :=
  xbr (s0 < (J 0)) (
    isB (J 1) ∧ K (J 1)) (
    xbr (s0 = (J 0)) (
      xbr (j2 ≤ j1) (
        isB (J 0) ∧ K (J 0)) (
        isB (J 1) ∧ K (J 1))) (
      isB (J 0) ∧ K (J 0)))
def JX11_isAhead_64 (K : Int32 → Prop) (M : Mem) (j0 : Nat) (j1 : Int32) (j2 : Int32) (s0 : Int32) : Prop :=
  xbr (s0 = (J 0)) (
    gR M 12 j0 1 fun q13 =>
    aI M q13 (((J 16) * j1) + (J 15)) fun v14 =>
    gR M 12 j0 1 fun q15 =>
    aI M q15 (((J 16) * j2) + (J 15)) fun v16 =>
    JX11_isAhead_101 K M j1 j2 (v14 - v16)) (
    JX11_isAhead_101 K M j1 j2 s0)
def JX11_isAhead_45 (K : Int32 → Prop) (M : Mem) (j0 : Nat) (j1 : Int32) (j2 : Int32) (j3 : Int32) (s0 : Int32) : Prop :=
  xbr (s0 = (J 0)) (
    PX11_byCutter j0 j1 j2 j3 M fun r10 =>
    JX11_isAhead_64 K M j0 j1 j2 r10) (
    JX11_isAhead_64 K M j0 j1 j2 s0)
def JX11_isAhead_26 (K : Int32 → Prop) (M : Mem) (j0 : Nat) (j1 : Int32) (j2 : Int32) (j3 : Int32) (s0 : Int32) : Prop :=
  xbr (s0 = (J 0)) (
    PX11_byDecimals j0 j1 j2 j3 M fun r7 =>
    JX11_isAhead_45 K M j0 j1 j2 j3 r7) (
    JX11_isAhead_45 K M j0 j1 j2 j3 s0)
def PX11_isAhead (a0 : Nat) (x1 : Int32) (x2 : Int32) (x3 : Int32) (M : Mem) (K : Int32 → Prop) : Prop :=
tS M 12 a0 (
  PX11_byClass a0 x1 x2 x3 M fun r1 =>
  xbr (r1 = (J 0)) (
    PX11_byNumber a0 x1 x2 x3 M fun r4 =>
    JX11_isAhead_26 K M a0 x1 x2 x3 r4) (
    JX11_isAhead_26 K M a0 x1 x2 x3 r1))
theorem tX11_isAhead {a0 : Nat} {x1 : Int32} {x2 : Int32} {x3 : Int32} {M : Mem} {K : Int32 → Prop} (h : PX11_isAhead a0 x1 x2 x3 M K) : (M.1 a0).1 = 12 := h.1
def PX11_ahead (a0 : Nat) (x1 : Int32) (x2 : Int32) (x3 : Int32) (M : Mem) (K : Int32 → Prop) : Prop :=
tS M 12 a0 (
  PX11_isBook a0 x1 M fun r1 =>
  xbr (r1 = (J 0)) (
    K (J (-1001))) (
    PX11_isBook a0 x2 M fun r4 =>
    xbr (r4 = (J 0)) (
      K (J (-1001))) (
      PX11_isReading x3 M fun r7 =>
      xbr (r7 = (J 0)) (
        K (J (-1001))) (
        PX11_isAhead a0 x1 x2 x3 M fun r10 =>
        xbr (r10 = (J 0)) (
          K (J 0)) (
          K (J 1))))))
theorem tX11_ahead {a0 : Nat} {x1 : Int32} {x2 : Int32} {x3 : Int32} {M : Mem} {K : Int32 → Prop} (h : PX11_ahead a0 x1 x2 x3 M K) : (M.1 a0).1 = 12 := h.1
def JX11_rank_30 (K : Int32 → Prop) (kc6 : (Int32 × Int32) → Prop) (M : Mem) (u0 : Nat) (u1 : Int32) (u2 : Int32) (u3 : Int32) (j5 : Int32) (s0 : Int32) : Prop :=
  PX11_isAhead u0 j5 u1 u2 M fun r4 =>
  xbr (r4 = (J 0)) (
    ∃ y7 : Int32, y7 = (s0 + (J 0)) ∧
    kc6 (y7, (j5 + (J 1)))) (
    ∃ y8 : Int32, y8 = (s0 + (J 1)) ∧
    kc6 (y8, (j5 + (J 1))))
def CX11_rank_6 (K : Int32 → Prop) (M : Mem) (u0 : Nat) (u1 : Int32) (u2 : Int32) (u3 : Int32) (kc6 : (Int32 × Int32) → Prop) (x4 : Int32) (x5 : Int32) : Prop :=
  gI M 12 u0 0 fun v1 =>
  xbr (v1 ≤ x5) (
    K x4) (
    xbr (u3 = (J 0)) (
      PX11_placeOf u0 x5 M fun r9 =>
      xbr (r9 < (J 0)) (
        ∃ y12 : Int32, y12 = (x4 + (J 0)) ∧
        kc6 (y12, (x5 + (J 1)))) (
        JX11_rank_30 K kc6 M u0 u1 u2 u3 x5 x4)) (
      JX11_rank_30 K kc6 M u0 u1 u2 u3 x5 x4))
def BX11_rank_6 (K : Int32 → Prop) (M : Mem) (u0 : Nat) (u1 : Int32) (u2 : Int32) (u3 : Int32) (kc6 : (Int32 × Int32) → Prop) (s : (Int32 × Int32)) : Prop := CX11_rank_6 K M u0 u1 u2 u3 kc6 s.1 s.2
def PX11_rank (a0 : Nat) (x1 : Int32) (x2 : Int32) (x3 : Int32) (M : Mem) (K : Int32 → Prop) : Prop :=
tS M 12 a0 (
  lp (BX11_rank_6 K M a0 x1 x2 x3) ((J 0), (J 0)))
theorem tX11_rank {a0 : Nat} {x1 : Int32} {x2 : Int32} {x3 : Int32} {M : Mem} {K : Int32 → Prop} (h : PX11_rank a0 x1 x2 x3 M K) : (M.1 a0).1 = 12 := h.1
def CX11_order_13 (K : Int32 → Prop) (M : Mem) (u0 : Nat) (u1 : Int32) (u2 : Int32) (kc13 : Int32 → Prop) (x3 : Int32) : Prop :=
  gI M 12 u0 0 fun v4 =>
  xbr (v4 ≤ x3) (
    K (J (-1))) (
    PX11_rank u0 x3 u1 (J 1) M fun r6 =>
    xbr (r6 = u2) (
      K x3) (
      kc13 (x3 + (J 1))))
def BX11_order_13 (K : Int32 → Prop) (M : Mem) (u0 : Nat) (u1 : Int32) (u2 : Int32) (kc13 : Int32 → Prop) (s : Int32) : Prop := CX11_order_13 K M u0 u1 u2 kc13 s
def PX11_order (a0 : Nat) (x1 : Int32) (x2 : Int32) (M : Mem) (K : Int32 → Prop) : Prop :=
tS M 12 a0 (
  PX11_isReading x1 M fun r1 =>
  xbr (r1 = (J 0)) (
    K (J (-1001))) (
    lp (BX11_order_13 K M a0 x1 x2) (J 0)))
theorem tX11_order {a0 : Nat} {x1 : Int32} {x2 : Int32} {M : Mem} {K : Int32 → Prop} (h : PX11_order a0 x1 x2 M K) : (M.1 a0).1 = 12 := h.1
def CX11_bits_4 (K : Int32 → Prop) (M : Mem) (u0 : Int32) (kc4 : (Int32 × Int32) → Prop) (x1 : Int32) (x2 : Int32) : Prop :=
  xbr ((J 24) ≤ x2) (
    K x1) (
    ∃ y2 : Int32, y2 = (x1 + ((u0 >>> (x2 &&& 31)) &&& (J 1))) ∧
    kc4 (y2, (x2 + (J 1))))
def BX11_bits_4 (K : Int32 → Prop) (M : Mem) (u0 : Int32) (kc4 : (Int32 × Int32) → Prop) (s : (Int32 × Int32)) : Prop := CX11_bits_4 K M u0 kc4 s.1 s.2
def PX11_bits (x0 : Int32) (M : Mem) (K : Int32 → Prop) : Prop :=
  lp (BX11_bits_4 K M x0) ((J 0), (J 0))
def PX11_count (a0 : Nat) (x1 : Int32) (M : Mem) (K : Int32 → Prop) : Prop :=
tS M 12 a0 (
  xbr (x1 = (J 0)) (
    gI M 12 a0 0 fun v2 =>
    K v2) (
  xbr (x1 = (J 1)) (
    gI M 12 a0 7 fun v4 =>
    K v4) (
  xbr (x1 = (J 2)) (
    gI M 12 a0 13 fun v6 =>
    K v6) (
  xbr (x1 = (J 3)) (
    gI M 12 a0 10 fun v8 =>
    PX11_bits v8 M fun r9 =>
    K r9) (
  K (J (-1002)))))))
theorem tX11_count {a0 : Nat} {x1 : Int32} {M : Mem} {K : Int32 → Prop} (h : PX11_count a0 x1 M K) : (M.1 a0).1 = 12 := h.1
def CX11_usedOn_11 (K : Int32 → Prop) (M : Mem) (u0 : Nat) (u1 : Int32) (u3 : Int32) (kc11 : (Int32 × Int32) → Prop) (x2 : Int32) (x4 : Int32) : Prop :=
  gR M 12 u0 9 fun q3 =>
  aI M q3 u1 fun v4 =>
  xbr ((u3 + v4) ≤ x4) (
    K x2) (
    gR M 12 u0 5 fun q6 =>
    gR M 12 u0 8 fun q7 =>
    aI M q7 x4 fun v8 =>
    aI M q6 v8 fun v9 =>
    ∃ y10 : Int32, y10 = (x2 + v9) ∧
    kc11 (y10, (x4 + (J 1))))
def BX11_usedOn_11 (K : Int32 → Prop) (M : Mem) (u0 : Nat) (u1 : Int32) (u3 : Int32) (kc11 : (Int32 × Int32) → Prop) (s : (Int32 × Int32)) : Prop := CX11_usedOn_11 K M u0 u1 u3 kc11 s.1 s.2
def PX11_usedOn (a0 : Nat) (x1 : Int32) (M : Mem) (K : Int32 → Prop) : Prop :=
tS M 12 a0 (
  PX11_firstOf a0 x1 M fun r1 =>
  lp (BX11_usedOn_11 K M a0 x1 r1) ((J 0), r1))
theorem tX11_usedOn {a0 : Nat} {x1 : Int32} {M : Mem} {K : Int32 → Prop} (h : PX11_usedOn a0 x1 M K) : (M.1 a0).1 = 12 := h.1
def PX11_roomOn (a0 : Nat) (x1 : Int32) (M : Mem) (K : Int32 → Prop) : Prop :=
tS M 12 a0 (
  gR M 12 a0 6 fun q1 =>
  aI M q1 x1 fun v2 =>
  PX11_usedOn a0 x1 M fun r3 =>
  K (v2 - r3))
theorem tX11_roomOn {a0 : Nat} {x1 : Int32} {M : Mem} {K : Int32 → Prop} (h : PX11_roomOn a0 x1 M K) : (M.1 a0).1 = 12 := h.1
def PX11_width (a0 : Nat) (x1 : Int32) (x2 : Int32) (M : Mem) (K : Int32 → Mem → Prop) : Prop :=
tS M 12 a0 (
  PX11_isShelf x1 M fun r1 =>
  xbr (r1 = (J 0)) (
    K (J (-1001)) M) (
    PX11_in x2.toInt64 (LJ 1) (LJ 60) M fun r4 =>
    xbr (r4 = (J 0)) (
      K (J (-1002)) M) (
      PX11_usedOn a0 x1 M fun r7 =>
      xbr (r7 ≤ x2) (
        gR M 12 a0 6 fun q10 =>
        aI M q10 x1 fun v11 =>
        gR M 12 a0 6 fun q12 =>
        aS M q12 x1 x2 fun M13 =>
        K v11 M13) (
        K (J (-1003)) M))))
theorem tX11_width {a0 : Nat} {x1 : Int32} {x2 : Int32} {M : Mem} {K : Int32 → Mem → Prop} (h : PX11_width a0 x1 x2 M K) : (M.1 a0).1 = 12 := h.1
def PX11_shelf (a0 : Nat) (x1 : Int32) (x2 : Int32) (M : Mem) (K : Int32 → Prop) : Prop :=
tS M 12 a0 (
  PX11_isShelf x1 M fun r1 =>
  xbr (r1 = (J 0)) (
    K (J (-1001))) (
    xbr (x2 = (J (-1))) (
      gR M 12 a0 9 fun q14 =>
      aI M q14 x1 fun v15 =>
      K v15) (
      gR M 12 a0 9 fun q5 =>
      aI M q5 x1 fun v6 =>
      PX11_in x2.toInt64 (LJ 0) (v6 - (J 1)).toInt64 M fun r7 =>
      xbr (r7 = (J 0)) (
        K (J (-1))) (
        gR M 12 a0 8 fun q10 =>
        PX11_firstOf a0 x1 M fun r11 =>
        aI M q10 (r11 + x2) fun v13 =>
        K v13))))
theorem tX11_shelf {a0 : Nat} {x1 : Int32} {x2 : Int32} {M : Mem} {K : Int32 → Prop} (h : PX11_shelf a0 x1 x2 M K) : (M.1 a0).1 = 12 := h.1
def PX11_room (a0 : Nat) (x1 : Int32) (M : Mem) (K : Int32 → Prop) : Prop :=
tS M 12 a0 (
  PX11_isShelf x1 M fun r1 =>
  xbr (r1 = (J 0)) (
    K (J (-1001))) (
    PX11_roomOn a0 x1 M fun r4 =>
    K r4))
theorem tX11_room {a0 : Nat} {x1 : Int32} {M : Mem} {K : Int32 → Prop} (h : PX11_room a0 x1 M K) : (M.1 a0).1 = 12 := h.1
def CX11_insert_6 (K : Mem → Prop) (u0 : Nat) (u1 : Int32) (u2 : Int32) (u3 : Int32) (kc6 : (Mem × Int32) → Prop) (M : Mem) (x4 : Int32) : Prop :=
  xbr (x4 ≤ u3) (
    gR M 12 u0 8 fun q3 =>
    aS M q3 u3 u1 fun M4 =>
    gR M4 12 u0 9 fun q5 =>
    aI M4 q5 u2 fun v6 =>
    aS M4 q5 u2 (v6 + (J 1)) fun M7 =>
    gI M7 12 u0 7 fun v8 =>
    pF M7 12 u0 7 (.int (v8 + (J 1))) fun M9 =>
    K M9) (
    gR M 12 u0 8 fun q10 =>
    gR M 12 u0 8 fun q11 =>
    aI M q11 (x4 - (J 1)) fun v12 =>
    aS M q10 x4 v12 fun M13 =>
    kc6 (M13, (x4 + (J (-1)))))
def BX11_insert_6 (K : Mem → Prop) (u0 : Nat) (u1 : Int32) (u2 : Int32) (u3 : Int32) (kc6 : (Mem × Int32) → Prop) (s : (Mem × Int32)) : Prop := CX11_insert_6 K u0 u1 u2 u3 kc6 s.1 s.2
def PX11_insert (a0 : Nat) (x1 : Int32) (x2 : Int32) (x3 : Int32) (M : Mem) (K : Mem → Prop) : Prop :=
tS M 12 a0 (
  gI M 12 a0 7 fun v1 =>
  lp (BX11_insert_6 K a0 x1 x2 x3) (M, v1))
theorem tX11_insert {a0 : Nat} {x1 : Int32} {x2 : Int32} {x3 : Int32} {M : Mem} {K : Mem → Prop} (h : PX11_insert a0 x1 x2 x3 M K) : (M.1 a0).1 = 12 := h.1
def CX11_remove_26 (K : Mem → Prop) (u0 : Nat) (kc26 : (Mem × Int32) → Prop) (M : Mem) (x2 : Int32) : Prop :=
  gI M 12 u0 7 fun v8 =>
  xbr (v8 ≤ x2) (
    K M) (
    gR M 12 u0 8 fun q10 =>
    gR M 12 u0 8 fun q11 =>
    aI M q11 (x2 + (J 1)) fun v12 =>
    aS M q10 x2 v12 fun M13 =>
    kc26 (M13, (x2 + (J 1))))
def BX11_remove_26 (K : Mem → Prop) (u0 : Nat) (kc26 : (Mem × Int32) → Prop) (s : (Mem × Int32)) : Prop := CX11_remove_26 K u0 kc26 s.1 s.2
def PX11_remove (a0 : Nat) (x1 : Int32) (M : Mem) (K : Mem → Prop) : Prop :=
tS M 12 a0 (
  gR M 12 a0 9 fun q1 =>
  PX11_shelfOf a0 x1 M fun r2 =>
  aI M q1 r2 fun v4 =>
  aS M q1 r2 (v4 - (J 1)) fun M5 =>
  gI M5 12 a0 7 fun v6 =>
  pF M5 12 a0 7 (.int (v6 - (J 1))) fun M7 =>
  lp (BX11_remove_26 K a0) (M7, x1))
theorem tX11_remove {a0 : Nat} {x1 : Int32} {M : Mem} {K : Mem → Prop} (h : PX11_remove a0 x1 M K) : (M.1 a0).1 = 12 := h.1
def PX11_set (a0 : Nat) (x1 : Int32) (x2 : Int32) (x3 : Int32) (M : Mem) (K : Int32 → Mem → Prop) : Prop :=
tS M 12 a0 (
  PX11_isBook a0 x1 M fun r1 =>
  xbr (r1 = (J 0)) (
    K (J (-1001)) M) (
    PX11_isShelf x2 M fun r4 =>
    xbr (r4 = (J 0)) (
      K (J (-1001)) M) (
      gR M 12 a0 9 fun q7 =>
      aI M q7 x2 fun v8 =>
      PX11_in x3.toInt64 (LJ 0) v8.toInt64 M fun r9 =>
      xbr (r9 = (J 0)) (
        K (J (-1002)) M) (
        PX11_placeOf a0 x1 M fun r12 =>
        xbr ((J 0) ≤ r12) (
          K (J (-1003)) M) (
          PX11_roomOn a0 x2 M fun r15 =>
          gR M 12 a0 5 fun q17 =>
          aI M q17 x1 fun v18 =>
          xbr (v18 ≤ r15) (
            PX11_firstOf a0 x2 M fun r20 =>
            PX11_insert a0 x1 x2 (r20 + x3) M fun M23 =>
            K (J 1) M23) (
            K (J (-1003)) M))))))
theorem tX11_set {a0 : Nat} {x1 : Int32} {x2 : Int32} {x3 : Int32} {M : Mem} {K : Int32 → Mem → Prop} (h : PX11_set a0 x1 x2 x3 M K) : (M.1 a0).1 = 12 := h.1
def CX11_save_36 (K : Mem → Prop) (u0 : Nat) (kc36 : (Mem × Int32) → Prop) (M : Mem) (x1 : Int32) : Prop :=
  xbr ((J 8) ≤ x1) (
    K M) (
    gR M 12 u0 22 fun q5 =>
    gR M 12 u0 9 fun q6 =>
    aI M q6 x1 fun v7 =>
    aS M q5 x1 v7 fun M8 =>
    kc36 (M8, (x1 + (J 1))))
def BX11_save_36 (K : Mem → Prop) (u0 : Nat) (kc36 : (Mem × Int32) → Prop) (s : (Mem × Int32)) : Prop := CX11_save_36 K u0 kc36 s.1 s.2
def CX11_save_10 (K : Mem → Prop) (u0 : Nat) (kc10 : (Mem × Int32) → Prop) (M : Mem) (x1 : Int32) : Prop :=
  xbr ((J 25) ≤ x1) (
    lp (BX11_save_36 K u0) (M, (J 0))) (
    gR M 12 u0 21 fun q9 =>
    gR M 12 u0 8 fun q10 =>
    aI M q10 x1 fun v11 =>
    aS M q9 x1 v11 fun M12 =>
    kc10 (M12, (x1 + (J 1))))
def BX11_save_10 (K : Mem → Prop) (u0 : Nat) (kc10 : (Mem × Int32) → Prop) (s : (Mem × Int32)) : Prop := CX11_save_10 K u0 kc10 s.1 s.2
def PX11_save (a0 : Nat) (M : Mem) (K : Mem → Prop) : Prop :=
tS M 12 a0 (
  gI M 12 a0 7 fun v1 =>
  pF M 12 a0 20 (.int v1) fun M2 =>
  lp (BX11_save_10 K a0) (M2, (J 0)))
theorem tX11_save {a0 : Nat} {M : Mem} {K : Mem → Prop} (h : PX11_save a0 M K) : (M.1 a0).1 = 12 := h.1
def CX11_back_36 (K : Mem → Prop) (u0 : Nat) (kc36 : (Mem × Int32) → Prop) (M : Mem) (x1 : Int32) : Prop :=
  xbr ((J 8) ≤ x1) (
    K M) (
    gR M 12 u0 9 fun q5 =>
    gR M 12 u0 22 fun q6 =>
    aI M q6 x1 fun v7 =>
    aS M q5 x1 v7 fun M8 =>
    kc36 (M8, (x1 + (J 1))))
def BX11_back_36 (K : Mem → Prop) (u0 : Nat) (kc36 : (Mem × Int32) → Prop) (s : (Mem × Int32)) : Prop := CX11_back_36 K u0 kc36 s.1 s.2
def CX11_back_10 (K : Mem → Prop) (u0 : Nat) (kc10 : (Mem × Int32) → Prop) (M : Mem) (x1 : Int32) : Prop :=
  xbr ((J 25) ≤ x1) (
    lp (BX11_back_36 K u0) (M, (J 0))) (
    gR M 12 u0 8 fun q9 =>
    gR M 12 u0 21 fun q10 =>
    aI M q10 x1 fun v11 =>
    aS M q9 x1 v11 fun M12 =>
    kc10 (M12, (x1 + (J 1))))
def BX11_back_10 (K : Mem → Prop) (u0 : Nat) (kc10 : (Mem × Int32) → Prop) (s : (Mem × Int32)) : Prop := CX11_back_10 K u0 kc10 s.1 s.2
def PX11_back (a0 : Nat) (M : Mem) (K : Mem → Prop) : Prop :=
tS M 12 a0 (
  gI M 12 a0 20 fun v1 =>
  pF M 12 a0 7 (.int v1) fun M2 =>
  lp (BX11_back_10 K a0) (M2, (J 0)))
theorem tX11_back {a0 : Nat} {M : Mem} {K : Mem → Prop} (h : PX11_back a0 M K) : (M.1 a0).1 = 12 := h.1
def CX11_placeBy_2 (K : Int32 → Prop) (M : Mem) (u0 : Nat) (u1 : Int32) (u2 : Int32) (kc2 : Int32 → Prop) (x3 : Int32) : Prop :=
  gI M 12 u0 7 fun v1 =>
  xbr (v1 ≤ x3) (
    K x3) (
    gR M 12 u0 8 fun q3 =>
    aI M q3 x3 fun v4 =>
    PX11_isAhead u0 v4 u1 u2 M fun r5 =>
    xbr (r5 = (J 0)) (
      K x3) (
      kc2 (x3 + (J 1))))
def BX11_placeBy_2 (K : Int32 → Prop) (M : Mem) (u0 : Nat) (u1 : Int32) (u2 : Int32) (kc2 : Int32 → Prop) (s : Int32) : Prop := CX11_placeBy_2 K M u0 u1 u2 kc2 s
def PX11_placeBy (a0 : Nat) (x1 : Int32) (x2 : Int32) (M : Mem) (K : Int32 → Prop) : Prop :=
tS M 12 a0 (
  lp (BX11_placeBy_2 K M a0 x1 x2) (J 0))
theorem tX11_placeBy {a0 : Nat} {x1 : Int32} {x2 : Int32} {M : Mem} {K : Int32 → Prop} (h : PX11_placeBy a0 x1 x2 M K) : (M.1 a0).1 = 12 := h.1
def JX11_shelfBy_30 (K : Int32 → Prop) (M : Mem) (s0 : Int32) (s1 : Nat) : Prop :=
  PX11_shelfOf s1 s0 M fun r6 =>
  K r6
def PX11_shelfBy (a0 : Nat) (x1 : Int32) (M : Mem) (K : Int32 → Prop) : Prop :=
tS M 12 a0 (
  gI M 12 a0 7 fun v1 =>
  xbr (v1 = (J 0)) (
    K (J 0)) (
    gI M 12 a0 7 fun v3 =>
    xbr (v3 ≤ x1) (
      gI M 12 a0 7 fun v5 =>
      JX11_shelfBy_30 K M (v5 - (J 1)) a0) (
      JX11_shelfBy_30 K M x1 a0)))
theorem tX11_shelfBy {a0 : Nat} {x1 : Int32} {M : Mem} {K : Int32 → Prop} (h : PX11_shelfBy a0 x1 M K) : (M.1 a0).1 = 12 := h.1
def CX11_push_8 (K : Int32 → Mem → Prop) (kc2 : (Mem × Int32) → Prop) (u0 : Nat) (u2 : Int32) (kc8 : Mem → Prop) (M : Mem) : Prop :=
  PX11_roomOn u0 u2 M fun r2 =>
  xbr ((J 0) ≤ r2) (
    kc2 (M, (u2 + (J 1)))) (
    xbr (u2 = (J 7)) (
      isB (J 0) ∧ K (J 0) M) (
      gR M 12 u0 9 fun q6 =>
      aI M q6 u2 fun v7 =>
      aS M q6 u2 (v7 - (J 1)) fun M8 =>
      gR M8 12 u0 9 fun q9 =>
      aI M8 q9 (u2 + (J 1)) fun v10 =>
      aS M8 q9 (u2 + (J 1)) (v10 + (J 1)) fun M11 =>
      kc8 M11))
def BX11_push_8 (K : Int32 → Mem → Prop) (kc2 : (Mem × Int32) → Prop) (u0 : Nat) (u2 : Int32) (kc8 : Mem → Prop) (s : Mem) : Prop := CX11_push_8 K kc2 u0 u2 kc8 s
def CX11_push_2 (K : Int32 → Mem → Prop) (u0 : Nat) (kc2 : (Mem × Int32) → Prop) (M : Mem) (x2 : Int32) : Prop :=
  xbr ((J 8) ≤ x2) (
    isB (J 1) ∧ K (J 1) M) (
    lp (BX11_push_8 K kc2 u0 x2) M)
def BX11_push_2 (K : Int32 → Mem → Prop) (u0 : Nat) (kc2 : (Mem × Int32) → Prop) (s : (Mem × Int32)) : Prop := CX11_push_2 K u0 kc2 s.1 s.2
def PX11_push (a0 : Nat) (x1 : Int32) (M : Mem) (K : Int32 → Mem → Prop) : Prop :=
tS M 12 a0 (
  lp (BX11_push_2 K a0) (M, x1))
theorem tX11_push {a0 : Nat} {x1 : Int32} {M : Mem} {K : Int32 → Mem → Prop} (h : PX11_push a0 x1 M K) : (M.1 a0).1 = 12 := h.1
def PX11_putNow (a0 : Nat) (x1 : Int32) (x2 : Int32) (M : Mem) (K : Int32 → Mem → Prop) : Prop :=
tS M 12 a0 (
  PX11_placeBy a0 x1 x2 M fun r1 =>
  PX11_shelfBy a0 r1 M fun r3 =>
  PX11_insert a0 x1 r3 r1 M fun M6 =>
  PX11_push a0 r3 M6 fun r7 M8 =>
  isB r7 ∧ K r7 M8)
theorem tX11_putNow {a0 : Nat} {x1 : Int32} {x2 : Int32} {M : Mem} {K : Int32 → Mem → Prop} (h : PX11_putNow a0 x1 x2 M K) : (M.1 a0).1 = 12 := h.1
def PX11_put (a0 : Nat) (x1 : Int32) (x2 : Int32) (M : Mem) (K : Int32 → Mem → Prop) : Prop :=
tS M 12 a0 (
  PX11_isBook a0 x1 M fun r1 =>
  xbr (r1 = (J 0)) (
    K (J (-1001)) M) (
    PX11_isReading x2 M fun r4 =>
    xbr (r4 = (J 0)) (
      K (J (-1001)) M) (
      PX11_placeOf a0 x1 M fun r7 =>
      xbr (r7 < (J 0)) (
        PX11_save a0 M fun M11 =>
        PX11_putNow a0 x1 x2 M11 fun r12 M13 =>
        xbr (r12 = (J 0)) (
          PX11_back a0 M13 fun M20 =>
          K (J (-1003)) M20) (
          PX11_placeOf a0 x1 M13 fun r15 =>
          PX11_shelfOf a0 r15 M13 fun r17 =>
          K r17 M13)) (
        K (J (-1003)) M))))
theorem tX11_put {a0 : Nat} {x1 : Int32} {x2 : Int32} {M : Mem} {K : Int32 → Mem → Prop} (h : PX11_put a0 x1 x2 M K) : (M.1 a0).1 = 12 := h.1
def PX11_take (a0 : Nat) (x1 : Int32) (M : Mem) (K : Int32 → Mem → Prop) : Prop :=
tS M 12 a0 (
  PX11_isBook a0 x1 M fun r1 =>
  xbr (r1 = (J 0)) (
    K (J (-1001)) M) (
    PX11_placeOf a0 x1 M fun r4 =>
    xbr ((J 0) ≤ r4) (
      PX11_shelfOf a0 r4 M fun r7 =>
      PX11_remove a0 r4 M fun M10 =>
      K r7 M10) (
      K (J (-1003)) M)))
theorem tX11_take {a0 : Nat} {x1 : Int32} {M : Mem} {K : Int32 → Mem → Prop} (h : PX11_take a0 x1 M K) : (M.1 a0).1 = 12 := h.1
def PX11_mayStand (a0 : Nat) (x1 : Int32) (x2 : Int32) (M : Mem) (K : Int32 → Prop) : Prop :=
tS M 12 a0 (
  xbr (x1 = (J 24)) (
    isB (J 1) ∧ K (J 1)) (
    gR M 12 a0 8 fun q2 =>
    aI M q2 x1 fun v3 =>
    gR M 12 a0 8 fun q4 =>
    aI M q4 x2 fun v5 =>
    PX11_isAhead a0 v3 v5 (J 0) M fun r6 =>
    xbr (r6 = (J 0)) (
      isB (J 0) ∧ K (J 0)) (
      isB (J 1) ∧ K (J 1))))
theorem tX11_mayStand {a0 : Nat} {x1 : Int32} {x2 : Int32} {M : Mem} {K : Int32 → Prop} (h : PX11_mayStand a0 x1 x2 M K) : (M.1 a0).1 = 12 := h.1
def JX11_findWrong_222 (K : Int32 → Mem → Prop) (kc151 : (Int32 × Int32 × Int32) → Prop) (M : Mem) (u0 : Nat) (j2 : Int32) (j3 : Int32) (j4 : Int32) (s0 : Int32) (s1 : Int32) : Prop :=
  ∃ y11 : Int32, y11 = (s1 ||| s0) ∧
  xbr (j4 = (J 0)) (
    kc151 (y11, j2, (j3 + (J 1)))) (
    kc151 (y11, j3, (j3 + (J 1))))
def JX11_findWrong_202 (K : Int32 → Mem → Prop) (kc151 : (Int32 × Int32 × Int32) → Prop) (M : Mem) (u0 : Nat) (j1 : Int32) (j2 : Int32) (j3 : Int32) (s0 : Int32) : Prop :=
  xbr (s0 = (J 0)) (
    gR M 12 u0 8 fun q9 =>
    aI M q9 j3 fun v10 =>
    JX11_findWrong_222 K kc151 M u0 j2 j3 s0 ((J 1) <<< (v10 &&& 31)) j1) (
    JX11_findWrong_222 K kc151 M u0 j2 j3 s0 (J 0) j1)
def JX11_findWrong_201 (K : Int32 → Mem → Prop) (kc151 : (Int32 × Int32 × Int32) → Prop) (M : Mem) (u0 : Nat) (j1 : Int32) (j2 : Int32) (j3 : Int32) : Prop :=
  JX11_findWrong_202 K kc151 M u0 j1 j2 j3 (J 0)
def CX11_findWrong_151 (K : Int32 → Mem → Prop) (M : Mem) (u0 : Nat) (kc151 : (Int32 × Int32 × Int32) → Prop) (x1 : Int32) (x2 : Int32) (x3 : Int32) : Prop :=
  gI M 12 u0 7 fun v3 =>
  xbr (v3 ≤ x3) (
    K x1 M) (
    PX11_mayStand u0 x2 x3 M fun r5 =>
    xbr (r5 = (J 0)) (
      JX11_findWrong_201 K kc151 M u0 x1 x2 x3) (
      gR M 12 u0 23 fun q13 =>
      aI M q13 (((J 25) * (x3 + (J 1))) + x3) fun v14 =>
      gR M 12 u0 23 fun q15 =>
      aI M q15 (((J 25) * x3) + x2) fun v16 =>
      xbr (((J 1) + v14) = v16) (
        JX11_findWrong_202 K kc151 M u0 x1 x2 x3 (J 1)) (
        JX11_findWrong_201 K kc151 M u0 x1 x2 x3)))
def BX11_findWrong_151 (K : Int32 → Mem → Prop) (M : Mem) (u0 : Nat) (kc151 : (Int32 × Int32 × Int32) → Prop) (s : (Int32 × Int32 × Int32)) : Prop := CX11_findWrong_151 K M u0 kc151 s.1 s.2.1 s.2.2
def JX11_findWrong_105 (K : Int32 → Mem → Prop) (kc5 : (Mem × Int32) → Prop) (kc11 : (Mem × Int32) → Prop) (M : Mem) (u0 : Nat) (u1 : Int32) (j2 : Int32) (j4 : Int32) (s0 : Int32) : Prop :=
  gR M 12 u0 23 fun q24 =>
  xbr (s0 ≤ j4) (
    aS M q24 (((J 25) * u1) + j2) j4 fun M26 =>
    kc11 (M26, (j2 + (J 1)))) (
    aS M q24 (((J 25) * u1) + j2) s0 fun M27 =>
    kc11 (M27, (j2 + (J 1))))
def JX11_findWrong_104 (K : Int32 → Mem → Prop) (kc5 : (Mem × Int32) → Prop) (kc11 : (Mem × Int32) → Prop) (M : Mem) (u0 : Nat) (u1 : Int32) (j2 : Int32) (j4 : Int32) : Prop :=
  JX11_findWrong_105 K kc5 kc11 M u0 u1 j2 j4 (J 0)
def JX11_findWrong_63 (K : Int32 → Mem → Prop) (kc5 : (Mem × Int32) → Prop) (kc11 : (Mem × Int32) → Prop) (M : Mem) (u0 : Nat) (u1 : Int32) (j2 : Int32) (j3 : Int32) (s0 : Int32) : Prop :=
  gI M 12 u0 7 fun v22 =>
  xbr (v22 ≤ u1) (
    JX11_findWrong_104 K kc5 kc11 M u0 u1 j2 s0) (
    xbr (j3 = (J 0)) (
      JX11_findWrong_104 K kc5 kc11 M u0 u1 j2 s0) (
      PX11_mayStand u0 j2 u1 M fun r29 =>
      xbr (r29 = (J 0)) (
        JX11_findWrong_104 K kc5 kc11 M u0 u1 j2 s0) (
        gR M 12 u0 23 fun q32 =>
        aI M q32 (((J 25) * (u1 + (J 1))) + u1) fun v33 =>
        JX11_findWrong_105 K kc5 kc11 M u0 u1 j2 s0 ((J 1) + v33))))
def JX11_findWrong_46 (K : Int32 → Mem → Prop) (kc5 : (Mem × Int32) → Prop) (kc11 : (Mem × Int32) → Prop) (M : Mem) (u0 : Nat) (u1 : Int32) (j2 : Int32) (j3 : Int32) : Prop :=
  JX11_findWrong_63 K kc5 kc11 M u0 u1 j2 j3 (J 0)
def JX11_findWrong_33 (K : Int32 → Mem → Prop) (kc5 : (Mem × Int32) → Prop) (kc11 : (Mem × Int32) → Prop) (M : Mem) (u0 : Nat) (u1 : Int32) (j2 : Int32) (s0 : Int32) : Prop :=
  gI M 12 u0 7 fun v20 =>
  xbr (u1 = v20) (
    JX11_findWrong_46 K kc5 kc11 M u0 u1 j2 s0) (
    xbr (s0 = (J 0)) (
      JX11_findWrong_46 K kc5 kc11 M u0 u1 j2 s0) (
      gR M 12 u0 23 fun q35 =>
      aI M q35 (((J 25) * (u1 + (J 1))) + j2) fun v36 =>
      JX11_findWrong_63 K kc5 kc11 M u0 u1 j2 s0 v36))
def JX11_findWrong_28 (K : Int32 → Mem → Prop) (kc5 : (Mem × Int32) → Prop) (kc11 : (Mem × Int32) → Prop) (M : Mem) (u0 : Nat) (u1 : Int32) (j2 : Int32) : Prop :=
  JX11_findWrong_33 K kc5 kc11 M u0 u1 j2 (J 1)
def CX11_findWrong_11 (K : Int32 → Mem → Prop) (kc5 : (Mem × Int32) → Prop) (u0 : Nat) (u1 : Int32) (kc11 : (Mem × Int32) → Prop) (M : Mem) (x2 : Int32) : Prop :=
  xbr ((J 24) < x2) (
    kc5 (M, (u1 + (J (-1))))) (
    xbr (x2 = (J 24)) (
      JX11_findWrong_28 K kc5 kc11 M u0 u1 x2) (
      xbr (u1 ≤ x2) (
        JX11_findWrong_33 K kc5 kc11 M u0 u1 x2 (J 0)) (
        JX11_findWrong_28 K kc5 kc11 M u0 u1 x2)))
def BX11_findWrong_11 (K : Int32 → Mem → Prop) (kc5 : (Mem × Int32) → Prop) (u0 : Nat) (u1 : Int32) (kc11 : (Mem × Int32) → Prop) (s : (Mem × Int32)) : Prop := CX11_findWrong_11 K kc5 u0 u1 kc11 s.1 s.2
def CX11_findWrong_5 (K : Int32 → Mem → Prop) (u0 : Nat) (kc5 : (Mem × Int32) → Prop) (M : Mem) (x1 : Int32) : Prop :=
  xbr (x1 < (J 0)) (
    lp (BX11_findWrong_151 K M u0) ((J 0), (J 24), (J 0))) (
    lp (BX11_findWrong_11 K kc5 u0 x1) (M, (J 0)))
def BX11_findWrong_5 (K : Int32 → Mem → Prop) (u0 : Nat) (kc5 : (Mem × Int32) → Prop) (s : (Mem × Int32)) : Prop := CX11_findWrong_5 K u0 kc5 s.1 s.2
def PX11_findWrong (a0 : Nat) (M : Mem) (K : Int32 → Mem → Prop) : Prop :=
tS M 12 a0 (
  gI M 12 a0 7 fun v1 =>
  lp (BX11_findWrong_5 K a0) (M, v1))
theorem tX11_findWrong {a0 : Nat} {M : Mem} {K : Int32 → Mem → Prop} (h : PX11_findWrong a0 M K) : (M.1 a0).1 = 12 := h.1
def PX11_wrong (a0 : Nat) (M : Mem) (K : Int32 → Mem → Prop) : Prop :=
tS M 12 a0 (
  PX11_findWrong a0 M fun r1 M2 =>
  K r1 M2)
theorem tX11_wrong {a0 : Nat} {M : Mem} {K : Int32 → Mem → Prop} (h : PX11_wrong a0 M K) : (M.1 a0).1 = 12 := h.1
def CX11_tidy_73 (K : Int32 → Prop) (kc26 : (Int32 × Int32 × Int32) → Prop) (M : Mem) (u0 : Nat) (u1 : Int32) (u3 : Int32) (u4 : Int32) (kc73 : (Int32 × Int32) → Prop) (x2 : Int32) (x5 : Int32) : Prop :=
  gI M 12 u0 7 fun v18 =>
  xbr (v18 ≤ x5) (
    kc26 (x2, u3, (u4 + (J (-1))))) (
    gR M 12 u0 8 fun q20 =>
    aI M q20 u4 fun v21 =>
    gR M 12 u0 8 fun q22 =>
    aI M q22 x5 fun v23 =>
    PX11_isAhead u0 v21 v23 (J 0) M fun r24 =>
    xbr (r24 = (J 0)) (
      ∃ y27 : Int32, y27 = (x2 + (J 1)) ∧
      kc73 (y27, (x5 + (J 1)))) (
      ∃ y28 : Int32, y28 = (x2 + (J 0)) ∧
      kc73 (y28, (x5 + (J 1)))))
def BX11_tidy_73 (K : Int32 → Prop) (kc26 : (Int32 × Int32 × Int32) → Prop) (M : Mem) (u0 : Nat) (u1 : Int32) (u3 : Int32) (u4 : Int32) (kc73 : (Int32 × Int32) → Prop) (s : (Int32 × Int32)) : Prop := CX11_tidy_73 K kc26 M u0 u1 u3 u4 kc73 s.1 s.2
def JX11_tidy_66 (K : Int32 → Prop) (kc26 : (Int32 × Int32 × Int32) → Prop) (M : Mem) (u0 : Nat) (u1 : Int32) (j2 : Int32) (j4 : Int32) (s0 : Int32) : Prop :=
  ∃ y17 : Int32, y17 = (j4 + (J 1)) ∧
  lp (BX11_tidy_73 K kc26 M u0 u1 s0 j4) (j2, y17)
def CX11_tidy_26 (K : Int32 → Prop) (M : Mem) (u0 : Nat) (u1 : Int32) (kc26 : (Int32 × Int32 × Int32) → Prop) (x2 : Int32) (x3 : Int32) (x4 : Int32) : Prop :=
  xbr (x4 < (J 0)) (
    xbr (u1 = (J 0)) (
      K x2) (
      K x3)) (
    gR M 12 u0 8 fun q8 =>
    aI M q8 x4 fun v9 =>
    gR M 12 u0 8 fun q10 =>
    aI M q10 (x4 + (J 1)) fun v11 =>
    PX11_isAhead u0 v9 v11 (J 0) M fun r12 =>
    xbr (r12 = (J 0)) (
      gR M 12 u0 8 fun q15 =>
      aI M q15 x4 fun v16 =>
      JX11_tidy_66 K kc26 M u0 u1 x2 x4 v16) (
      JX11_tidy_66 K kc26 M u0 u1 x2 x4 x3))
def BX11_tidy_26 (K : Int32 → Prop) (M : Mem) (u0 : Nat) (u1 : Int32) (kc26 : (Int32 × Int32 × Int32) → Prop) (s : (Int32 × Int32 × Int32)) : Prop := CX11_tidy_26 K M u0 u1 kc26 s.1 s.2.1 s.2.2
def PX11_tidy (a0 : Nat) (x1 : Int32) (M : Mem) (K : Int32 → Prop) : Prop :=
tS M 12 a0 (
  PX11_in x1.toInt64 (LJ 0) (LJ 1) M fun r1 =>
  xbr (r1 = (J 0)) (
    K (J (-1002))) (
    gI M 12 a0 7 fun v4 =>
    ∃ y5 : Int32, y5 = (v4 - (J 2)) ∧
    lp (BX11_tidy_26 K M a0 x1) ((J 0), (J (-1)), y5)))
theorem tX11_tidy {a0 : Nat} {x1 : Int32} {M : Mem} {K : Int32 → Prop} (h : PX11_tidy a0 x1 M K) : (M.1 a0).1 = 12 := h.1
def CX11_mend_44 (K : Int32 → Mem → Prop) (u0 : Nat) (u1 : Int32) (kc44 : (Mem × Int32) → Prop) (M : Mem) (x2 : Int32) : Prop :=
  gI M 12 u0 0 fun v7 =>
  xbr (v7 ≤ x2) (
    PX11_bits u1 M fun r9 =>
    K r9 M) (
    PX11_has u1 x2 M fun r11 =>
    xbr (r11 = (J 0)) (
      kc44 (M, (x2 + (J 1)))) (
      PX11_putNow u0 x2 (J 0) M fun r14 M15 =>
      xbr (r14 = (J 0)) (
        PX11_back u0 M15 fun M18 =>
        K (J (-1003)) M18) (
        kc44 (M15, (x2 + (J 1))))))
def BX11_mend_44 (K : Int32 → Mem → Prop) (u0 : Nat) (u1 : Int32) (kc44 : (Mem × Int32) → Prop) (s : (Mem × Int32)) : Prop := CX11_mend_44 K u0 u1 kc44 s.1 s.2
def CX11_mend_11 (K : Int32 → Mem → Prop) (u0 : Nat) (u1 : Int32) (kc11 : (Mem × Int32) → Prop) (M : Mem) (x2 : Int32) : Prop :=
  gI M 12 u0 0 fun v5 =>
  xbr (v5 ≤ x2) (
    lp (BX11_mend_44 K u0 u1) (M, (J 0))) (
    PX11_has u1 x2 M fun r19 =>
    xbr (r19 = (J 0)) (
      kc11 (M, (x2 + (J 1)))) (
      PX11_placeOf u0 x2 M fun r22 =>
      PX11_remove u0 r22 M fun M25 =>
      kc11 (M25, (x2 + (J 1)))))
def BX11_mend_11 (K : Int32 → Mem → Prop) (u0 : Nat) (u1 : Int32) (kc11 : (Mem × Int32) → Prop) (s : (Mem × Int32)) : Prop := CX11_mend_11 K u0 u1 kc11 s.1 s.2
def PX11_mend (a0 : Nat) (M : Mem) (K : Int32 → Mem → Prop) : Prop :=
tS M 12 a0 (
  PX11_findWrong a0 M fun r1 M2 =>
  PX11_save a0 M2 fun M4 =>
  lp (BX11_mend_11 K a0 r1) (M4, (J 0)))
theorem tX11_mend {a0 : Nat} {M : Mem} {K : Int32 → Mem → Prop} (h : PX11_mend a0 M K) : (M.1 a0).1 = 12 := h.1
def JX11_guess_80 (K : Int32 → Mem → Prop) (kc34 : Int32 → Prop) (kc46 : (Int32 × Int32) → Prop) (M : Mem) (u0 : Nat) (u1 : Int32) (u2 : Int32) (u3 : Int32) (u4 : Int32) (j5 : Int32) (j6 : Int32) (s0 : Int32) : Prop :=
  xbr (j5 = (J 0)) (
    kc46 ((J 0), (j6 + (J 1)))) (
    xbr (s0 = (J 0)) (
      kc46 ((J 1), (j6 + (J 1)))) (
      xbr (u2 ≤ j6) (
        gR M 12 u0 8 fun q17 =>
        aI M q17 j6 fun v18 =>
        PX11_isAhead u0 u1 v18 u4 M fun r19 =>
        xbr (r19 = (J 0)) (
          kc46 ((J 0), (j6 + (J 1)))) (
          kc46 ((J 1), (j6 + (J 1))))) (
        gR M 12 u0 8 fun q22 =>
        aI M q22 j6 fun v23 =>
        PX11_isAhead u0 v23 u1 u4 M fun r24 =>
        xbr (r24 = (J 0)) (
          kc46 ((J 0), (j6 + (J 1)))) (
          kc46 ((J 1), (j6 + (J 1)))))))
def JX11_guess_79 (K : Int32 → Mem → Prop) (kc34 : Int32 → Prop) (kc46 : (Int32 × Int32) → Prop) (M : Mem) (u0 : Nat) (u1 : Int32) (u2 : Int32) (u3 : Int32) (u4 : Int32) (j5 : Int32) (j6 : Int32) : Prop :=
  JX11_guess_80 K kc34 kc46 M u0 u1 u2 u3 u4 j5 j6 (J 0)
def CX11_guess_46 (K : Int32 → Mem → Prop) (kc34 : Int32 → Prop) (M : Mem) (u0 : Nat) (u1 : Int32) (u2 : Int32) (u3 : Int32) (u4 : Int32) (kc46 : (Int32 × Int32) → Prop) (x5 : Int32) (x6 : Int32) : Prop :=
  gI M 12 u0 7 fun v10 =>
  xbr (v10 ≤ x6) (
    xbr (x5 = (J 0)) (
      kc34 (u4 + (J 1))) (
      K u4 M)) (
    xbr (x6 = u2) (
      JX11_guess_79 K kc34 kc46 M u0 u1 u2 u3 u4 x5 x6) (
      gR M 12 u0 8 fun q27 =>
      aI M q27 x6 fun v28 =>
      PX11_has u3 v28 M fun r29 =>
      xbr (r29 = (J 0)) (
        JX11_guess_80 K kc34 kc46 M u0 u1 u2 u3 u4 x5 x6 (J 1)) (
        JX11_guess_79 K kc34 kc46 M u0 u1 u2 u3 u4 x5 x6)))
def BX11_guess_46 (K : Int32 → Mem → Prop) (kc34 : Int32 → Prop) (M : Mem) (u0 : Nat) (u1 : Int32) (u2 : Int32) (u3 : Int32) (u4 : Int32) (kc46 : (Int32 × Int32) → Prop) (s : (Int32 × Int32)) : Prop := CX11_guess_46 K kc34 M u0 u1 u2 u3 u4 kc46 s.1 s.2
def CX11_guess_34 (K : Int32 → Mem → Prop) (M : Mem) (u0 : Nat) (u1 : Int32) (u2 : Int32) (u3 : Int32) (kc34 : Int32 → Prop) (x4 : Int32) : Prop :=
  xbr ((J 5) ≤ x4) (
    K (J (-1)) M) (
    lp (BX11_guess_46 K kc34 M u0 u1 u2 u3 x4) ((J 1), (J 0)))
def BX11_guess_34 (K : Int32 → Mem → Prop) (M : Mem) (u0 : Nat) (u1 : Int32) (u2 : Int32) (u3 : Int32) (kc34 : Int32 → Prop) (s : Int32) : Prop := CX11_guess_34 K M u0 u1 u2 u3 kc34 s
def PX11_guess (a0 : Nat) (x1 : Int32) (M : Mem) (K : Int32 → Mem → Prop) : Prop :=
tS M 12 a0 (
  PX11_isBook a0 x1 M fun r1 =>
  xbr (r1 = (J 0)) (
    K (J (-1001)) M) (
    PX11_placeOf a0 x1 M fun r4 =>
    xbr ((J 0) ≤ r4) (
      PX11_findWrong a0 M fun r7 M8 =>
      lp (BX11_guess_34 K M8 a0 x1 r4 r7) (J 0)) (
      K (J (-1003)) M)))
theorem tX11_guess {a0 : Nat} {x1 : Int32} {M : Mem} {K : Int32 → Mem → Prop} (h : PX11_guess a0 x1 M K) : (M.1 a0).1 = 12 := h.1
def CX11_carried_54 (K : Int32 → Prop) (kc4 : (Int32 × Int32) → Prop) (kc43 : (Int32 × Int32 × Int32) → Prop) (M : Mem) (u0 : Nat) (u1 : Int32) (u2 : Int32) (u3 : Int32) (u5 : Int32) (u6 : Int32) (kc54 : (Int32 × Int32) → Prop) (x4 : Int32) (x7 : Int32) : Prop :=
  gR M 12 u0 22 fun q14 =>
  aI M q14 u6 fun v15 =>
  xbr ((u5 + v15) ≤ x7) (
    gR M 12 u0 22 fun q17 =>
    aI M q17 u6 fun v18 =>
    ∃ y19 : Int32, y19 = (u5 + v18) ∧
    kc43 (x4, y19, (u6 + (J 1)))) (
    gR M 12 u0 21 fun q20 =>
    aI M q20 x7 fun v21 =>
    xbr (v21 = u2) (
      kc54 (u6, (x7 + (J 1)))) (
      kc54 (x4, (x7 + (J 1)))))
def BX11_carried_54 (K : Int32 → Prop) (kc4 : (Int32 × Int32) → Prop) (kc43 : (Int32 × Int32 × Int32) → Prop) (M : Mem) (u0 : Nat) (u1 : Int32) (u2 : Int32) (u3 : Int32) (u5 : Int32) (u6 : Int32) (kc54 : (Int32 × Int32) → Prop) (s : (Int32 × Int32)) : Prop := CX11_carried_54 K kc4 kc43 M u0 u1 u2 u3 u5 u6 kc54 s.1 s.2
def CX11_carried_43 (K : Int32 → Prop) (kc4 : (Int32 × Int32) → Prop) (M : Mem) (u0 : Nat) (u1 : Int32) (u2 : Int32) (u3 : Int32) (kc43 : (Int32 × Int32 × Int32) → Prop) (x4 : Int32) (x5 : Int32) (x6 : Int32) : Prop :=
  xbr ((J 8) ≤ x6) (
    xbr (u3 = x4) (
      ∃ y13 : Int32, y13 = (u1 + (J 0)) ∧
      kc4 (y13, (u2 + (J 1)))) (
      ∃ y12 : Int32, y12 = (u1 + (J 1)) ∧
      kc4 (y12, (u2 + (J 1))))) (
    lp (BX11_carried_54 K kc4 kc43 M u0 u1 u2 u3 x5 x6) (x4, x5))
def BX11_carried_43 (K : Int32 → Prop) (kc4 : (Int32 × Int32) → Prop) (M : Mem) (u0 : Nat) (u1 : Int32) (u2 : Int32) (u3 : Int32) (kc43 : (Int32 × Int32 × Int32) → Prop) (s : (Int32 × Int32 × Int32)) : Prop := CX11_carried_43 K kc4 M u0 u1 u2 u3 kc43 s.1 s.2.1 s.2.2
def JX11_carried_33 (K : Int32 → Prop) (kc4 : (Int32 × Int32) → Prop) (M : Mem) (u0 : Nat) (j1 : Int32) (j2 : Int32) (s0 : Int32) : Prop :=
  lp (BX11_carried_43 K kc4 M u0 j1 j2 s0) ((J (-1)), (J 0), (J 0))
def CX11_carried_4 (K : Int32 → Prop) (M : Mem) (u0 : Nat) (kc4 : (Int32 × Int32) → Prop) (x1 : Int32) (x2 : Int32) : Prop :=
  gI M 12 u0 0 fun v1 =>
  xbr (v1 ≤ x2) (
    K x1) (
    PX11_placeOf u0 x2 M fun r3 =>
    xbr ((J 0) ≤ r3) (
      PX11_placeOf u0 x2 M fun r6 =>
      PX11_shelfOf u0 r6 M fun r8 =>
      JX11_carried_33 K kc4 M u0 x1 x2 r8) (
      JX11_carried_33 K kc4 M u0 x1 x2 (J (-1))))
def BX11_carried_4 (K : Int32 → Prop) (M : Mem) (u0 : Nat) (kc4 : (Int32 × Int32) → Prop) (s : (Int32 × Int32)) : Prop := CX11_carried_4 K M u0 kc4 s.1 s.2
def PX11_carried (a0 : Nat) (M : Mem) (K : Int32 → Prop) : Prop :=
tS M 12 a0 (
  lp (BX11_carried_4 K M a0) ((J 0), (J 0)))
theorem tX11_carried {a0 : Nat} {M : Mem} {K : Int32 → Prop} (h : PX11_carried a0 M K) : (M.1 a0).1 = 12 := h.1
def JX11_lay_289 (K : Int32 → Mem → Prop) (M : Mem) (j0 : Nat) (j4 : Int32) : Prop :=
  gI M 12 j0 20 fun v11 =>
  xbr (v11 ≤ j4) (
    PX11_carried j0 M fun r13 =>
    K r13 M) (
    PX11_back j0 M fun M16 =>
    K (J (-1003)) M16)
def JX11_lay_270 (K : Int32 → Mem → Prop) (kc161 : (Mem × Int32 × Int32 × Int32) → Prop) (M : Mem) (u0 : Nat) (u1 : Int32) (j2 : Int32) (j3 : Int32) (j7 : Int32) (s0 : Int32) (s1 : Int32) : Prop :=
  ∃ y32 : Int32, y32 = (s1 + s0) ∧
  xbr (j7 = (J 0)) (
    ∃ y34 : Int32, y34 = (j2 + (J 1)) ∧
    kc161 (M, y34, j3, y32)) (
    ∃ y35 : Int32, y35 = (j2 + (J 0)) ∧
    kc161 (M, y35, j3, y32))
def JX11_lay_257 (K : Int32 → Mem → Prop) (kc161 : (Mem × Int32 × Int32 × Int32) → Prop) (M : Mem) (u0 : Nat) (u1 : Int32) (j2 : Int32) (j4 : Int32) (j7 : Int32) (s0 : Int32) : Prop :=
  xbr (j7 = (J 0)) (
    JX11_lay_270 K kc161 M u0 u1 j2 s0 j7 (J 0) j4) (
    JX11_lay_270 K kc161 M u0 u1 j2 s0 j7 (J 1) j4)
def JX11_lay_242 (K : Int32 → Mem → Prop) (kc161 : (Mem × Int32 × Int32 × Int32) → Prop) (M : Mem) (u0 : Nat) (u1 : Int32) (j2 : Int32) (j3 : Int32) (j4 : Int32) (j5 : Int32) (j7 : Int32) (s0 : Int32) (s1 : Int32) (s2 : Int32) (s3 : Nat) : Prop :=
  aS M s3 s2 (s1 + s0) fun M29 =>
  xbr (j7 = (J 0)) (
    JX11_lay_257 K kc161 M29 u0 u1 j2 j4 j7 (J 0)) (
    JX11_lay_257 K kc161 M29 u0 u1 j2 j4 j7 (j3 + j5))
def JX11_lay_223 (K : Int32 → Mem → Prop) (kc161 : (Mem × Int32 × Int32 × Int32) → Prop) (M : Mem) (u0 : Nat) (u1 : Int32) (j2 : Int32) (j3 : Int32) (j4 : Int32) (j5 : Int32) (s0 : Int32) : Prop :=
  gR M 12 u0 9 fun q26 =>
  aI M q26 j2 fun v27 =>
  xbr (s0 = (J 0)) (
    JX11_lay_242 K kc161 M u0 u1 j2 j3 j4 j5 s0 (J 0) v27 j2 q26) (
    JX11_lay_242 K kc161 M u0 u1 j2 j3 j4 j5 s0 (J 1) v27 j2 q26)
def JX11_lay_218 (K : Int32 → Mem → Prop) (kc161 : (Mem × Int32 × Int32 × Int32) → Prop) (M : Mem) (u0 : Nat) (u1 : Int32) (j2 : Int32) (j3 : Int32) (j4 : Int32) (j5 : Int32) : Prop :=
  JX11_lay_223 K kc161 M u0 u1 j2 j3 j4 j5 (J 1)
def JX11_lay_222 (K : Int32 → Mem → Prop) (kc161 : (Mem × Int32 × Int32 × Int32) → Prop) (M : Mem) (u0 : Nat) (u1 : Int32) (j2 : Int32) (j3 : Int32) (j4 : Int32) (j5 : Int32) : Prop :=
  JX11_lay_223 K kc161 M u0 u1 j2 j3 j4 j5 (J 0)
def CX11_lay_161 (K : Int32 → Mem → Prop) (u0 : Nat) (u1 : Int32) (kc161 : (Mem × Int32 × Int32 × Int32) → Prop) (M : Mem) (x2 : Int32) (x3 : Int32) (x4 : Int32) : Prop :=
  gI M 12 u0 20 fun v9 =>
  xbr (v9 ≤ x4) (
    JX11_lay_289 K M u0 x4) (
    xbr ((J 8) ≤ x2) (
      JX11_lay_289 K M u0 x4) (
      gR M 12 u0 5 fun q18 =>
      gR M 12 u0 8 fun q19 =>
      aI M q19 x4 fun v20 =>
      aI M q18 v20 fun v21 =>
      gR M 12 u0 6 fun q22 =>
      aI M q22 x2 fun v23 =>
      ∃ y24 : Int32, y24 = ((v23 - x3) - v21) ∧
      xbr (u1 ≤ y24) (
        JX11_lay_218 K kc161 M u0 u1 x2 x3 x4 v21) (
        xbr (x3 = (J 0)) (
          xbr (y24 < (J 0)) (
            JX11_lay_222 K kc161 M u0 u1 x2 x3 x4 v21) (
            JX11_lay_218 K kc161 M u0 u1 x2 x3 x4 v21)) (
          JX11_lay_222 K kc161 M u0 u1 x2 x3 x4 v21))))
def BX11_lay_161 (K : Int32 → Mem → Prop) (u0 : Nat) (u1 : Int32) (kc161 : (Mem × Int32 × Int32 × Int32) → Prop) (s : (Mem × Int32 × Int32 × Int32)) : Prop := CX11_lay_161 K u0 u1 kc161 s.1 s.2.1 s.2.2.1 s.2.2.2
def CX11_lay_135 (K : Int32 → Mem → Prop) (u0 : Nat) (u1 : Int32) (kc135 : (Mem × Int32) → Prop) (M : Mem) (x2 : Int32) : Prop :=
  xbr ((J 8) ≤ x2) (
    lp (BX11_lay_161 K u0 u1) (M, (J 0), (J 0), (J 0))) (
    gR M 12 u0 9 fun q38 =>
    aS M q38 x2 (J 0) fun M39 =>
    kc135 (M39, (x2 + (J 1))))
def BX11_lay_135 (K : Int32 → Mem → Prop) (u0 : Nat) (u1 : Int32) (kc135 : (Mem × Int32) → Prop) (s : (Mem × Int32)) : Prop := CX11_lay_135 K u0 u1 kc135 s.1 s.2
def CX11_lay_78 (K : Int32 → Mem → Prop) (kc22 : (Mem × Int32) → Prop) (M : Mem) (u0 : Nat) (u1 : Int32) (u2 : Int32) (kc78 : (Int32 × Int32) → Prop) (x4 : Int32) (x5 : Int32) : Prop :=
  gI M 12 u0 20 fun v43 =>
  xbr (v43 ≤ x5) (
    gR M 12 u0 8 fun q45 =>
    aS M q45 x4 u2 fun M46 =>
    kc22 (M46, (u2 + (J 1)))) (
    gR M 12 u0 21 fun q47 =>
    aI M q47 x5 fun v48 =>
    PX11_isAhead u0 v48 u2 (J 0) M fun r49 =>
    xbr (r49 = (J 0)) (
      ∃ y52 : Int32, y52 = (x4 + (J 0)) ∧
      kc78 (y52, (x5 + (J 1)))) (
      ∃ y53 : Int32, y53 = (x4 + (J 1)) ∧
      kc78 (y53, (x5 + (J 1)))))
def BX11_lay_78 (K : Int32 → Mem → Prop) (kc22 : (Mem × Int32) → Prop) (M : Mem) (u0 : Nat) (u1 : Int32) (u2 : Int32) (kc78 : (Int32 × Int32) → Prop) (s : (Int32 × Int32)) : Prop := CX11_lay_78 K kc22 M u0 u1 u2 kc78 s.1 s.2
def CX11_lay_35 (K : Int32 → Mem → Prop) (kc22 : (Mem × Int32) → Prop) (M : Mem) (u0 : Nat) (u1 : Int32) (u2 : Int32) (kc35 : (Int32 × Int32) → Prop) (x3 : Int32) (x4 : Int32) : Prop :=
  gI M 12 u0 20 fun v40 =>
  xbr (v40 ≤ x4) (
    xbr (x3 < (J 0)) (
      kc22 (M, (u2 + (J 1)))) (
      lp (BX11_lay_78 K kc22 M u0 u1 u2) ((J 0), (J 0)))) (
    gR M 12 u0 21 fun q54 =>
    aI M q54 x4 fun v55 =>
    xbr (v55 = u2) (
      kc35 (x4, (x4 + (J 1)))) (
      kc35 (x3, (x4 + (J 1)))))
def BX11_lay_35 (K : Int32 → Mem → Prop) (kc22 : (Mem × Int32) → Prop) (M : Mem) (u0 : Nat) (u1 : Int32) (u2 : Int32) (kc35 : (Int32 × Int32) → Prop) (s : (Int32 × Int32)) : Prop := CX11_lay_35 K kc22 M u0 u1 u2 kc35 s.1 s.2
def CX11_lay_22 (K : Int32 → Mem → Prop) (u0 : Nat) (u1 : Int32) (kc22 : (Mem × Int32) → Prop) (M : Mem) (x2 : Int32) : Prop :=
  gI M 12 u0 0 fun v6 =>
  xbr (v6 ≤ x2) (
    lp (BX11_lay_135 K u0 u1) (M, (J 0))) (
    lp (BX11_lay_35 K kc22 M u0 u1 x2) ((J (-1)), (J 0)))
def BX11_lay_22 (K : Int32 → Mem → Prop) (u0 : Nat) (u1 : Int32) (kc22 : (Mem × Int32) → Prop) (s : (Mem × Int32)) : Prop := CX11_lay_22 K u0 u1 kc22 s.1 s.2
def PX11_lay (a0 : Nat) (x1 : Int32) (M : Mem) (K : Int32 → Mem → Prop) : Prop :=
tS M 12 a0 (
  PX11_in x1.toInt64 (LJ 0) (LJ 30) M fun r1 =>
  xbr (r1 = (J 0)) (
    K (J (-1002)) M) (
    PX11_save a0 M fun M5 =>
    lp (BX11_lay_22 K a0 x1) (M5, (J 0))))
theorem tX11_lay {a0 : Nat} {x1 : Int32} {M : Mem} {K : Int32 → Mem → Prop} (h : PX11_lay a0 x1 M K) : (M.1 a0).1 = 12 := h.1
def JX11_makeLater_49 (K : Int32 → Mem → Prop) (M : Mem) (j0 : Nat) (j1 : Int32) (j2 : Int32) : Prop :=
  PX11_roomOn j0 j1 M fun r4 =>
  xbr (r4 < j2) (
    isB (J 0) ∧ K (J 0) M) (
    PX11_push j0 j1 M fun r7 M8 =>
    xbr (r7 = (J 0)) (
      isB (J 0) ∧ K (J 0) M8) (
      isB (J 1) ∧ K (J 1) M8))
def CX11_makeLater_0 (K : Int32 → Mem → Prop) (u0 : Nat) (u1 : Int32) (u2 : Int32) (kc0 : Mem → Prop) (M : Mem) : Prop :=
  PX11_roomOn u0 u1 M fun r1 =>
  xbr (u2 ≤ r1) (
    JX11_makeLater_49 K M u0 u1 u2) (
    gR M 12 u0 9 fun q10 =>
    aI M q10 u1 fun v11 =>
    xbr (v11 ≤ (J 0)) (
      JX11_makeLater_49 K M u0 u1 u2) (
      xbr ((J 7) ≤ u1) (
        JX11_makeLater_49 K M u0 u1 u2) (
        gR M 12 u0 9 fun q14 =>
        aI M q14 u1 fun v15 =>
        aS M q14 u1 (v15 - (J 1)) fun M16 =>
        gR M16 12 u0 9 fun q17 =>
        aI M16 q17 (u1 + (J 1)) fun v18 =>
        aS M16 q17 (u1 + (J 1)) (v18 + (J 1)) fun M19 =>
        kc0 M19)))
def BX11_makeLater_0 (K : Int32 → Mem → Prop) (u0 : Nat) (u1 : Int32) (u2 : Int32) (kc0 : Mem → Prop) (s : Mem) : Prop := CX11_makeLater_0 K u0 u1 u2 kc0 s
def PX11_makeLater (a0 : Nat) (x1 : Int32) (x2 : Int32) (M : Mem) (K : Int32 → Mem → Prop) : Prop :=
tS M 12 a0 (
  lp (BX11_makeLater_0 K a0 x1 x2) M)
theorem tX11_makeLater {a0 : Nat} {x1 : Int32} {x2 : Int32} {M : Mem} {K : Int32 → Mem → Prop} (h : PX11_makeLater a0 x1 x2 M K) : (M.1 a0).1 = 12 := h.1
def JX11_makeEarlier_117 (K : Int32 → Mem → Prop) (kc67 : (Mem × Int32 × Int32) → Prop) (M : Mem) (u0 : Nat) (j4 : Int32) : Prop :=
  PX11_roomOn u0 j4 M fun r13 =>
  xbr (r13 < (J 0)) (
    kc67 (M, (J 0), (j4 + (J (-1))))) (
    kc67 (M, (J 1), (j4 + (J (-1)))))
def CX11_makeEarlier_76 (K : Int32 → Mem → Prop) (kc67 : (Mem × Int32 × Int32) → Prop) (u0 : Nat) (u4 : Int32) (kc76 : Mem → Prop) (M : Mem) : Prop :=
  PX11_roomOn u0 u4 M fun r10 =>
  xbr ((J 0) ≤ r10) (
    JX11_makeEarlier_117 K kc67 M u0 u4) (
    xbr (u4 ≤ (J 0)) (
      JX11_makeEarlier_117 K kc67 M u0 u4) (
      gR M 12 u0 9 fun q17 =>
      aI M q17 u4 fun v18 =>
      aS M q17 u4 (v18 - (J 1)) fun M19 =>
      gR M19 12 u0 9 fun q20 =>
      aI M19 q20 (u4 - (J 1)) fun v21 =>
      aS M19 q20 (u4 - (J 1)) (v21 + (J 1)) fun M22 =>
      kc76 M22))
def BX11_makeEarlier_76 (K : Int32 → Mem → Prop) (kc67 : (Mem × Int32 × Int32) → Prop) (u0 : Nat) (u4 : Int32) (kc76 : Mem → Prop) (s : Mem) : Prop := CX11_makeEarlier_76 K kc67 u0 u4 kc76 s
def CX11_makeEarlier_67 (K : Int32 → Mem → Prop) (u0 : Nat) (kc67 : (Mem × Int32 × Int32) → Prop) (M : Mem) (x3 : Int32) (x4 : Int32) : Prop :=
  xbr (x4 < (J 0)) (
    isB x3 ∧ K x3 M) (
    xbr (x3 = (J 0)) (
      isB x3 ∧ K x3 M) (
      lp (BX11_makeEarlier_76 K kc67 u0 x4) M))
def BX11_makeEarlier_67 (K : Int32 → Mem → Prop) (u0 : Nat) (kc67 : (Mem × Int32 × Int32) → Prop) (s : (Mem × Int32 × Int32)) : Prop := CX11_makeEarlier_67 K u0 kc67 s.1 s.2.1 s.2.2
def JX11_makeEarlier_61 (K : Int32 → Mem → Prop) (M : Mem) (j0 : Nat) (j1 : Int32) (s0 : Int32) : Prop :=
  ∃ y7 : Int32, y7 = (j1 - (J 1)) ∧
  lp (BX11_makeEarlier_67 K j0) (M, s0, y7)
def JX11_makeEarlier_47 (K : Int32 → Mem → Prop) (M : Mem) (j0 : Nat) (j1 : Int32) (j2 : Int32) : Prop :=
  PX11_roomOn j0 j1 M fun r4 =>
  xbr (r4 < j2) (
    JX11_makeEarlier_61 K M j0 j1 (J 0)) (
    JX11_makeEarlier_61 K M j0 j1 (J 1))
def CX11_makeEarlier_0 (K : Int32 → Mem → Prop) (u0 : Nat) (u1 : Int32) (u2 : Int32) (kc0 : Mem → Prop) (M : Mem) : Prop :=
  PX11_roomOn u0 u1 M fun r1 =>
  xbr (u2 ≤ r1) (
    JX11_makeEarlier_47 K M u0 u1 u2) (
    gR M 12 u0 9 fun q23 =>
    aI M q23 u1 fun v24 =>
    xbr (v24 ≤ (J 0)) (
      JX11_makeEarlier_47 K M u0 u1 u2) (
      xbr (u1 ≤ (J 0)) (
        JX11_makeEarlier_47 K M u0 u1 u2) (
        gR M 12 u0 9 fun q27 =>
        aI M q27 u1 fun v28 =>
        aS M q27 u1 (v28 - (J 1)) fun M29 =>
        gR M29 12 u0 9 fun q30 =>
        aI M29 q30 (u1 - (J 1)) fun v31 =>
        aS M29 q30 (u1 - (J 1)) (v31 + (J 1)) fun M32 =>
        kc0 M32)))
def BX11_makeEarlier_0 (K : Int32 → Mem → Prop) (u0 : Nat) (u1 : Int32) (u2 : Int32) (kc0 : Mem → Prop) (s : Mem) : Prop := CX11_makeEarlier_0 K u0 u1 u2 kc0 s
def PX11_makeEarlier (a0 : Nat) (x1 : Int32) (x2 : Int32) (M : Mem) (K : Int32 → Mem → Prop) : Prop :=
tS M 12 a0 (
  lp (BX11_makeEarlier_0 K a0 x1 x2) M)
theorem tX11_makeEarlier {a0 : Nat} {x1 : Int32} {x2 : Int32} {M : Mem} {K : Int32 → Mem → Prop} (h : PX11_makeEarlier a0 x1 x2 M K) : (M.1 a0).1 = 12 := h.1
def JX11_make_150 (K : Int32 → Mem → Prop) (M : Mem) (j4 : Int32) (j5 : Int32) (j6 : Int32) (s0 : Int32) : Prop :=
  xbr (s0 = (J 0)) (
    K (J (-1003)) M) (
    xbr (j6 = (J 0)) (
      K j5 M) (
      K j4 M))
def JX11_make_145 (K : Int32 → Mem → Prop) (M : Mem) (j4 : Int32) (j5 : Int32) (j6 : Int32) : Prop :=
  JX11_make_150 K M j4 j5 j6 (J 1)
def JX11_make_149 (K : Int32 → Mem → Prop) (M : Mem) (j4 : Int32) (j5 : Int32) (j6 : Int32) : Prop :=
  JX11_make_150 K M j4 j5 j6 (J 0)
def JX11_make_113 (K : Int32 → Mem → Prop) (M : Mem) (j0 : Nat) (j1 : Int32) (j2 : Int32) (j3 : Int32) (j4 : Int32) (j5 : Int32) (s0 : Int32) : Prop :=
  xbr (j3 = (J 0)) (
    JX11_make_145 K M j4 j5 s0) (
    xbr (s0 = (J 0)) (
      PX11_makeEarlier j0 j1 j2 M fun r25 M26 =>
      xbr (r25 = (J 0)) (
        JX11_make_149 K M26 j4 j5 s0) (
        JX11_make_145 K M26 j4 j5 s0)) (
      PX11_makeLater j0 j1 j2 M fun r28 M29 =>
      xbr (r28 = (J 0)) (
        JX11_make_149 K M29 j4 j5 s0) (
        JX11_make_145 K M29 j4 j5 s0)))
def JX11_make_112 (K : Int32 → Mem → Prop) (M : Mem) (j0 : Nat) (j1 : Int32) (j2 : Int32) (j3 : Int32) (j4 : Int32) (j5 : Int32) : Prop :=
  JX11_make_113 K M j0 j1 j2 j3 j4 j5 (J 0)
def JX11_make_108 (K : Int32 → Mem → Prop) (M : Mem) (j0 : Nat) (j1 : Int32) (j2 : Int32) (j3 : Int32) (j4 : Int32) (j5 : Int32) : Prop :=
  JX11_make_113 K M j0 j1 j2 j3 j4 j5 (J 1)
def JX11_make_91 (K : Int32 → Mem → Prop) (M : Mem) (j0 : Nat) (j1 : Int32) (j2 : Int32) (j3 : Int32) (j4 : Int32) (j5 : Int32) : Prop :=
  xbr (j4 < (J 0)) (
    JX11_make_112 K M j0 j1 j2 j3 j4 j5) (
    xbr (j5 < (J 0)) (
      JX11_make_108 K M j0 j1 j2 j3 j4 j5) (
      xbr (j5 < j4) (
        JX11_make_112 K M j0 j1 j2 j3 j4 j5) (
        JX11_make_108 K M j0 j1 j2 j3 j4 j5)))
def JX11_make_71 (K : Int32 → Mem → Prop) (M : Mem) (j0 : Nat) (j1 : Int32) (j2 : Int32) (j3 : Int32) (j4 : Int32) (s0 : Int32) : Prop :=
  PX11_back j0 M fun M18 =>
  xbr ((J 0) ≤ j4) (
    JX11_make_91 K M18 j0 j1 j2 j3 j4 s0) (
    xbr ((J 0) ≤ s0) (
      JX11_make_91 K M18 j0 j1 j2 j3 j4 s0) (
      K (J (-1003)) M18))
def JX11_make_48 (K : Int32 → Mem → Prop) (M : Mem) (j0 : Nat) (j1 : Int32) (j2 : Int32) (j3 : Int32) (s0 : Int32) : Prop :=
  PX11_back j0 M fun M13 =>
  PX11_makeEarlier j0 j1 j2 M13 fun r14 M15 =>
  xbr (r14 = (J 0)) (
    JX11_make_71 K M15 j0 j1 j2 j3 s0 (J (-1))) (
    PX11_carried j0 M15 fun r34 =>
    JX11_make_71 K M15 j0 j1 j2 j3 s0 r34)
def PX11_make (a0 : Nat) (x1 : Int32) (x2 : Int32) (x3 : Int32) (M : Mem) (K : Int32 → Mem → Prop) : Prop :=
tS M 12 a0 (
  PX11_isShelf x1 M fun r1 =>
  xbr (r1 = (J 0)) (
    K (J (-1001)) M) (
    PX11_in x2.toInt64 (LJ 1) (LJ 30) M fun r4 =>
    xbr (r4 = (J 0)) (
      K (J (-1002)) M) (
      PX11_save a0 M fun M8 =>
      PX11_makeLater a0 x1 x2 M8 fun r9 M10 =>
      xbr (r9 = (J 0)) (
        JX11_make_48 K M10 a0 x1 x2 x3 (J (-1))) (
        PX11_carried a0 M10 fun r36 =>
        JX11_make_48 K M10 a0 x1 x2 x3 r36))))
theorem tX11_make {a0 : Nat} {x1 : Int32} {x2 : Int32} {x3 : Int32} {M : Mem} {K : Int32 → Mem → Prop} (h : PX11_make a0 x1 x2 x3 M K) : (M.1 a0).1 = 12 := h.1
def JX11_findGuide_122 (K : Int32 → Mem → Prop) (kc60 : (Mem × Int32 × Int32) → Prop) (M : Mem) (u0 : Nat) (u1 : Int32) (u2 : Int32) (j3 : Int32) (j4 : Int32) (j5 : Int32) : Prop :=
  xbr ((j5 + (J 1)) ≤ j3) (
    kc60 (M, j3, (j4 + (J 1)))) (
    ∃ y22 : Int32, y22 = (j5 + (J 1)) ∧
    kc60 (M, y22, (j4 + (J 1))))
def CX11_findGuide_84 (K : Int32 → Mem → Prop) (kc60 : (Mem × Int32 × Int32) → Prop) (M : Mem) (u0 : Nat) (u1 : Int32) (u2 : Int32) (u3 : Int32) (u4 : Int32) (kc84 : Int32 → Prop) (x5 : Int32) : Prop :=
  xbr (u2 ≤ x5) (
    JX11_findGuide_122 K kc60 M u0 u1 u2 u3 u4 x5) (
    gI M 12 u0 19 fun v23 =>
    xbr (v23 ≤ x5) (
      JX11_findGuide_122 K kc60 M u0 u1 u2 u3 u4 x5) (
      gR M 12 u0 18 fun q25 =>
      aI M q25 x5 fun v26 =>
      gR M 12 u0 24 fun q27 =>
      aI M q27 x5 fun v28 =>
      xbr (v26 = v28) (
        kc84 (x5 + (J 1))) (
        JX11_findGuide_122 K kc60 M u0 u1 u2 u3 u4 x5)))
def BX11_findGuide_84 (K : Int32 → Mem → Prop) (kc60 : (Mem × Int32 × Int32) → Prop) (M : Mem) (u0 : Nat) (u1 : Int32) (u2 : Int32) (u3 : Int32) (u4 : Int32) (kc84 : Int32 → Prop) (s : Int32) : Prop := CX11_findGuide_84 K kc60 M u0 u1 u2 u3 u4 kc84 s
def CX11_findGuide_60 (K : Int32 → Mem → Prop) (u0 : Nat) (u1 : Int32) (u2 : Int32) (kc60 : (Mem × Int32 × Int32) → Prop) (M : Mem) (x3 : Int32) (x4 : Int32) : Prop :=
  PX11_firstOf u0 u1 M fun r12 =>
  xbr (r12 ≤ x4) (
    xbr (x3 ≤ u2) (
      K x3 M) (
      K u2 M)) (
    gR M 12 u0 8 fun q16 =>
    aI M q16 x4 fun v17 =>
    PX11_writeMark u0 v17 M fun M19 =>
    lp (BX11_findGuide_84 K kc60 M19 u0 u1 u2 x3 x4) (J 0))
def BX11_findGuide_60 (K : Int32 → Mem → Prop) (u0 : Nat) (u1 : Int32) (u2 : Int32) (kc60 : (Mem × Int32 × Int32) → Prop) (s : (Mem × Int32 × Int32)) : Prop := CX11_findGuide_60 K u0 u1 u2 kc60 s.1 s.2.1 s.2.2
def CX11_findGuide_32 (K : Int32 → Mem → Prop) (u0 : Nat) (u1 : Int32) (u2 : Int32) (kc32 : (Mem × Int32) → Prop) (M : Mem) (x3 : Int32) : Prop :=
  xbr (u2 ≤ x3) (
    lp (BX11_findGuide_60 K u0 u1 u2) (M, (J 1), (J 0))) (
    gR M 12 u0 24 fun q30 =>
    gR M 12 u0 18 fun q31 =>
    aI M q31 x3 fun v32 =>
    aS M q30 x3 v32 fun M33 =>
    kc32 (M33, (x3 + (J 1))))
def BX11_findGuide_32 (K : Int32 → Mem → Prop) (u0 : Nat) (u1 : Int32) (u2 : Int32) (kc32 : (Mem × Int32) → Prop) (s : (Mem × Int32)) : Prop := CX11_findGuide_32 K u0 u1 u2 kc32 s.1 s.2
def PX11_findGuide (a0 : Nat) (x1 : Int32) (M : Mem) (K : Int32 → Mem → Prop) : Prop :=
tS M 12 a0 (
  gR M 12 a0 9 fun q1 =>
  aI M q1 x1 fun v2 =>
  xbr (v2 = (J 0)) (
    K (J 0) M) (
    gR M 12 a0 8 fun q4 =>
    PX11_firstOf a0 x1 M fun r5 =>
    aI M q4 r5 fun v7 =>
    PX11_writeMark a0 v7 M fun M9 =>
    gI M9 12 a0 19 fun v10 =>
    lp (BX11_findGuide_32 K a0 x1 v10) (M9, (J 0))))
theorem tX11_findGuide {a0 : Nat} {x1 : Int32} {M : Mem} {K : Int32 → Mem → Prop} (h : PX11_findGuide a0 x1 M K) : (M.1 a0).1 = 12 := h.1
def PX11_guide (a0 : Nat) (x1 : Int32) (x2 : Int32) (M : Mem) (K : Int32 → Mem → Prop) : Prop :=
tS M 12 a0 (
  PX11_isShelf x1 M fun r1 =>
  xbr (r1 = (J 0)) (
    K (J (-1001)) M) (
    PX11_findGuide a0 x1 M fun r4 M5 =>
    xbr (x2 = (J (-1))) (
      K r4 M5) (
      PX11_in x2.toInt64 (LJ 0) (r4 - (J 1)).toInt64 M5 fun r7 =>
      xbr (r7 = (J 0)) (
        K (J (-1)) M5) (
        gR M5 12 a0 24 fun q10 =>
        aI M5 q10 x2 fun v11 =>
        K v11 M5))))
theorem tX11_guide {a0 : Nat} {x1 : Int32} {x2 : Int32} {M : Mem} {K : Int32 → Mem → Prop} (h : PX11_guide a0 x1 x2 M K) : (M.1 a0).1 = 12 := h.1
def PX11_areBooks (a0 : Nat) (x1 : Int32) (M : Mem) (K : Int32 → Prop) : Prop :=
tS M 12 a0 (
  gI M 12 a0 0 fun v1 =>
  PX11_in x1.toInt64 (LJ 0) (((J 1) <<< (v1 &&& 31)) - (J 1)).toInt64 M fun r2 =>
  isB r2 ∧ K r2)
theorem tX11_areBooks {a0 : Nat} {x1 : Int32} {M : Mem} {K : Int32 → Prop} (h : PX11_areBooks a0 x1 M K) : (M.1 a0).1 = 12 := h.1
def PX11_list (a0 : Nat) (x1 : Int32) (M : Mem) (K : Int32 → Mem → Prop) : Prop :=
tS M 12 a0 (
  PX11_areBooks a0 x1 M fun r1 =>
  xbr (r1 = (J 0)) (
    K (J (-1002)) M) (
    gI M 12 a0 10 fun v4 =>
    pF M 12 a0 10 (.int x1) fun M5 =>
    K v4 M5))
theorem tX11_list {a0 : Nat} {x1 : Int32} {M : Mem} {K : Int32 → Mem → Prop} (h : PX11_list a0 x1 M K) : (M.1 a0).1 = 12 := h.1
def CX11_stock_18 (K : Int32 → Prop) (M : Mem) (u0 : Nat) (u1 : Int32) (kc18 : (Int32 × Int32) → Prop) (x2 : Int32) (x3 : Int32) : Prop :=
  gI M 12 u0 7 fun v4 =>
  xbr (v4 ≤ x3) (
    xbr (u1 = (J 0)) (
      gI M 12 u0 10 fun v8 =>
      K (v8 &&& (x2 ^^^ (J (-1))))) (
      gI M 12 u0 10 fun v7 =>
      K (x2 &&& (v7 ^^^ (J (-1)))))) (
    gR M 12 u0 8 fun q9 =>
    aI M q9 x3 fun v10 =>
    ∃ y11 : Int32, y11 = (x2 ||| ((J 1) <<< (v10 &&& 31))) ∧
    kc18 (y11, (x3 + (J 1))))
def BX11_stock_18 (K : Int32 → Prop) (M : Mem) (u0 : Nat) (u1 : Int32) (kc18 : (Int32 × Int32) → Prop) (s : (Int32 × Int32)) : Prop := CX11_stock_18 K M u0 u1 kc18 s.1 s.2
def PX11_stock (a0 : Nat) (x1 : Int32) (M : Mem) (K : Int32 → Prop) : Prop :=
tS M 12 a0 (
  PX11_in x1.toInt64 (LJ 0) (LJ 1) M fun r1 =>
  xbr (r1 = (J 0)) (
    K (J (-1002))) (
    lp (BX11_stock_18 K M a0 x1) ((J 0), (J 0))))
theorem tX11_stock {a0 : Nat} {x1 : Int32} {M : Mem} {K : Int32 → Prop} (h : PX11_stock a0 x1 M K) : (M.1 a0).1 = 12 := h.1
def PX11_habit (a0 : Nat) (x1 : Int32) (x2 : Int32) (M : Mem) (K : Int32 → Mem → Prop) : Prop :=
tS M 12 a0 (
  PX11_isReading x1 M fun r1 =>
  xbr (r1 = (J 0)) (
    K (J (-1001)) M) (
    PX11_in x2.toInt64 (LJ 0) (LJ 99) M fun r4 =>
    xbr (r4 = (J 0)) (
      K (J (-1002)) M) (
      gR M 12 a0 11 fun q7 =>
      aI M q7 x1 fun v8 =>
      gR M 12 a0 11 fun q9 =>
      aS M q9 x1 x2 fun M10 =>
      K v8 M10)))
theorem tX11_habit {a0 : Nat} {x1 : Int32} {x2 : Int32} {M : Mem} {K : Int32 → Mem → Prop} (h : PX11_habit a0 x1 x2 M K) : (M.1 a0).1 = 12 := h.1
def CX11_allHabits_4 (K : Int32 → Prop) (M : Mem) (u0 : Nat) (kc4 : (Int32 × Int32) → Prop) (x1 : Int32) (x2 : Int32) : Prop :=
  xbr ((J 5) ≤ x2) (
    K x1) (
    gR M 12 u0 11 fun q2 =>
    aI M q2 x2 fun v3 =>
    ∃ y4 : Int32, y4 = (x1 + v3) ∧
    kc4 (y4, (x2 + (J 1))))
def BX11_allHabits_4 (K : Int32 → Prop) (M : Mem) (u0 : Nat) (kc4 : (Int32 × Int32) → Prop) (s : (Int32 × Int32)) : Prop := CX11_allHabits_4 K M u0 kc4 s.1 s.2
def PX11_allHabits (a0 : Nat) (M : Mem) (K : Int32 → Prop) : Prop :=
tS M 12 a0 (
  lp (BX11_allHabits_4 K M a0) ((J 0), (J 0)))
theorem tX11_allHabits {a0 : Nat} {M : Mem} {K : Int32 → Prop} (h : PX11_allHabits a0 M K) : (M.1 a0).1 = 12 := h.1
def CX11_likelyOn_5 (K : Int32 → Prop) (M : Mem) (u0 : Nat) (u1 : Int32) (u2 : Int32) (kc5 : (Int32 × Int32) → Prop) (x3 : Int32) (x4 : Int32) : Prop :=
  xbr ((J 5) ≤ x4) (
    PX11_allHabits u0 M fun r2 =>
    xbr (r2 = (J 0)) (
      K (J 0)) (
      ¬ r2.toInt64 = 0 ∧
      K ((x3.toInt64 * (LJ 1000000)) / r2.toInt64).toInt32)) (
    PX11_placeBy u0 u1 x4 M fun r5 =>
    PX11_shelfBy u0 r5 M fun r7 =>
    xbr (r7 = u2) (
      gR M 12 u0 11 fun q11 =>
      aI M q11 x4 fun v12 =>
      ∃ y13 : Int32, y13 = (x3 + v12) ∧
      kc5 (y13, (x4 + (J 1)))) (
      ∃ y10 : Int32, y10 = (x3 + (J 0)) ∧
      kc5 (y10, (x4 + (J 1)))))
def BX11_likelyOn_5 (K : Int32 → Prop) (M : Mem) (u0 : Nat) (u1 : Int32) (u2 : Int32) (kc5 : (Int32 × Int32) → Prop) (s : (Int32 × Int32)) : Prop := CX11_likelyOn_5 K M u0 u1 u2 kc5 s.1 s.2
def PX11_likelyOn (a0 : Nat) (x1 : Int32) (x2 : Int32) (M : Mem) (K : Int32 → Prop) : Prop :=
tS M 12 a0 (
  lp (BX11_likelyOn_5 K M a0 x1 x2) ((J 0), (J 0)))
theorem tX11_likelyOn {a0 : Nat} {x1 : Int32} {x2 : Int32} {M : Mem} {K : Int32 → Prop} (h : PX11_likelyOn a0 x1 x2 M K) : (M.1 a0).1 = 12 := h.1
def PX11_likely (a0 : Nat) (x1 : Int32) (x2 : Int32) (M : Mem) (K : Int32 → Prop) : Prop :=
tS M 12 a0 (
  PX11_isBook a0 x1 M fun r1 =>
  xbr (r1 = (J 0)) (
    K (J (-1001))) (
    PX11_isShelf x2 M fun r4 =>
    xbr (r4 = (J 0)) (
      K (J (-1001))) (
      PX11_placeOf a0 x1 M fun r7 =>
      xbr (r7 < (J 0)) (
        PX11_likelyOn a0 x1 x2 M fun r10 =>
        K r10) (
        K (J (-1003))))))
theorem tX11_likely {a0 : Nat} {x1 : Int32} {x2 : Int32} {M : Mem} {K : Int32 → Prop} (h : PX11_likely a0 x1 x2 M K) : (M.1 a0).1 = 12 := h.1
def CX11_nextRow_107 (K : Int32 → Mem → Prop) (u0 : Nat) (kc107 : (Mem × Int32 × Int32) → Prop) (M : Mem) (x4 : Int32) (x5 : Int32) : Prop :=
  xbr (x5 ≤ x4) (
    isB (J 1) ∧ K (J 1) M) (
    gR M 12 u0 26 fun q24 =>
    aI M q24 x4 fun v25 =>
    gR M 12 u0 26 fun q26 =>
    gR M 12 u0 26 fun q27 =>
    aI M q27 x5 fun v28 =>
    aS M q26 x4 v28 fun M29 =>
    gR M29 12 u0 26 fun q30 =>
    aS M29 q30 x5 v25 fun M31 =>
    kc107 (M31, (x4 + (J 1)), (x5 + (J (-1)))))
def BX11_nextRow_107 (K : Int32 → Mem → Prop) (u0 : Nat) (kc107 : (Mem × Int32 × Int32) → Prop) (s : (Mem × Int32 × Int32)) : Prop := CX11_nextRow_107 K u0 kc107 s.1 s.2.1 s.2.2
def CX11_nextRow_47 (K : Int32 → Mem → Prop) (M : Mem) (u0 : Nat) (u1 : Int32) (kc47 : Int32 → Prop) (x2 : Int32) : Prop :=
  gR M 12 u0 26 fun q7 =>
  aI M q7 x2 fun v8 =>
  gR M 12 u0 26 fun q9 =>
  aI M q9 u1 fun v10 =>
  xbr (v10 ≤ v8) (
    gR M 12 u0 26 fun q12 =>
    aI M q12 u1 fun v13 =>
    gR M 12 u0 26 fun q14 =>
    gR M 12 u0 26 fun q15 =>
    aI M q15 x2 fun v16 =>
    aS M q14 u1 v16 fun M17 =>
    gR M17 12 u0 26 fun q18 =>
    aS M17 q18 x2 v13 fun M19 =>
    ∃ y20 : Int32, y20 = (u1 + (J 1)) ∧
    gI M19 12 u0 25 fun v21 =>
    ∃ y22 : Int32, y22 = (v21 - (J 1)) ∧
    lp (BX11_nextRow_107 K u0) (M19, y20, y22)) (
    kc47 (x2 + (J (-1))))
def BX11_nextRow_47 (K : Int32 → Mem → Prop) (M : Mem) (u0 : Nat) (u1 : Int32) (kc47 : Int32 → Prop) (s : Int32) : Prop := CX11_nextRow_47 K M u0 u1 kc47 s
def JX11_nextRow_34 (K : Int32 → Mem → Prop) (M : Mem) (j0 : Nat) (j1 : Int32) : Prop :=
  xbr ((J 0) ≤ j1) (
    gI M 12 j0 25 fun v5 =>
    ∃ y6 : Int32, y6 = (v5 - (J 1)) ∧
    lp (BX11_nextRow_47 K M j0 j1) y6) (
    isB (J 0) ∧ K (J 0) M)
def CX11_nextRow_7 (K : Int32 → Mem → Prop) (M : Mem) (u0 : Nat) (kc7 : Int32 → Prop) (x1 : Int32) : Prop :=
  xbr (x1 < (J 0)) (
    JX11_nextRow_34 K M u0 x1) (
    gR M 12 u0 26 fun q32 =>
    aI M q32 x1 fun v33 =>
    gR M 12 u0 26 fun q34 =>
    aI M q34 (x1 + (J 1)) fun v35 =>
    xbr (v33 ≤ v35) (
      JX11_nextRow_34 K M u0 x1) (
      kc7 (x1 + (J (-1)))))
def BX11_nextRow_7 (K : Int32 → Mem → Prop) (M : Mem) (u0 : Nat) (kc7 : Int32 → Prop) (s : Int32) : Prop := CX11_nextRow_7 K M u0 kc7 s
def PX11_nextRow (a0 : Nat) (M : Mem) (K : Int32 → Mem → Prop) : Prop :=
tS M 12 a0 (
  gI M 12 a0 25 fun v1 =>
  ∃ y2 : Int32, y2 = (v1 - (J 2)) ∧
  lp (BX11_nextRow_7 K M a0) y2)
theorem tX11_nextRow {a0 : Nat} {M : Mem} {K : Int32 → Mem → Prop} (h : PX11_nextRow a0 M K) : (M.1 a0).1 = 12 := h.1
def JX11_weighed_70 (K : Int64 → Prop) (kc10 : (Int64 × Int32 × Int32 × Int32) → Prop) (M : Mem) (u0 : Nat) (j1 : Int64) (j5 : Int32) (j6 : Int32) (s0 : Int32) (s1 : Int32) (s2 : Int32) : Prop :=
  ∃ y9 : Int32, y9 = (s2 + (s1 + s0)) ∧
  gR M 12 u0 28 fun q10 =>
  aI M q10 j6 fun v11 =>
  ∃ y12 : Int64, y12 = (j1 + (v11.toInt64 * y9.toInt64)) ∧
  kc10 (y12, y9, j6, (j5 + (J 1)))
def JX11_weighed_49 (K : Int64 → Prop) (kc10 : (Int64 × Int32 × Int32 × Int32) → Prop) (M : Mem) (u0 : Nat) (j1 : Int64) (j5 : Int32) (j6 : Int32) (s0 : Int32) (s1 : Int32) : Prop :=
  gR M 12 u0 9 fun q6 =>
  aI M q6 j6 fun v7 =>
  xbr (v7 ≤ (J 0)) (
    JX11_weighed_70 K kc10 M u0 j1 j5 j6 (J 1) s0 s1) (
    gR M 12 u0 9 fun q13 =>
    aI M q13 j6 fun v14 =>
    JX11_weighed_70 K kc10 M u0 j1 j5 j6 v14 s0 s1)
def CX11_weighed_10 (K : Int64 → Prop) (M : Mem) (u0 : Nat) (kc10 : (Int64 × Int32 × Int32 × Int32) → Prop) (x1 : Int64) (x3 : Int32) (x4 : Int32) (x5 : Int32) : Prop :=
  gI M 12 u0 25 fun v1 =>
  xbr (v1 ≤ x5) (
    K x1) (
    gR M 12 u0 26 fun q3 =>
    aI M q3 x5 fun v4 =>
    xbr (v4 ≤ x4) (
      JX11_weighed_49 K kc10 M u0 x1 x5 v4 (x4 - v4) x3) (
      JX11_weighed_49 K kc10 M u0 x1 x5 v4 (v4 - x4) x3))
def BX11_weighed_10 (K : Int64 → Prop) (M : Mem) (u0 : Nat) (kc10 : (Int64 × Int32 × Int32 × Int32) → Prop) (s : (Int64 × Int32 × Int32 × Int32)) : Prop := CX11_weighed_10 K M u0 kc10 s.1 s.2.1 s.2.2.1 s.2.2.2
def PX11_weighed (a0 : Nat) (M : Mem) (K : Int64 → Prop) : Prop :=
tS M 12 a0 (
  lp (BX11_weighed_10 K M a0) ((LJ 0), (J 0), (J 0), (J 0)))
theorem tX11_weighed {a0 : Nat} {M : Mem} {K : Int64 → Prop} (h : PX11_weighed a0 M K) : (M.1 a0).1 = 12 := h.1
def JX11_findSearch_124 (K : Int32 → Mem → Prop) (kc64 : (Mem × Int32 × Int32) → Prop) (M : Mem) (u0 : Nat) (j2 : Int32) : Prop :=
  PX11_nextRow u0 M fun r10 M11 =>
  kc64 (M11, j2, r10)
def CX11_findSearch_95 (K : Int32 → Mem → Prop) (kc64 : (Mem × Int32 × Int32) → Prop) (u0 : Nat) (u2 : Int32) (kc95 : (Mem × Int32) → Prop) (M : Mem) (x5 : Int32) : Prop :=
  gI M 12 u0 25 fun v8 =>
  xbr (v8 ≤ x5) (
    JX11_findSearch_124 K kc64 M u0 u2) (
    gR M 12 u0 27 fun q12 =>
    gR M 12 u0 26 fun q13 =>
    aI M q13 x5 fun v14 =>
    aS M q12 x5 v14 fun M15 =>
    kc95 (M15, (x5 + (J 1))))
def BX11_findSearch_95 (K : Int32 → Mem → Prop) (kc64 : (Mem × Int32 × Int32) → Prop) (u0 : Nat) (u2 : Int32) (kc95 : (Mem × Int32) → Prop) (s : (Mem × Int32)) : Prop := CX11_findSearch_95 K kc64 u0 u2 kc95 s.1 s.2
def JX11_findSearch_89 (K : Int32 → Mem → Prop) (kc64 : (Mem × Int32 × Int32) → Prop) (M : Mem) (u0 : Nat) (j4 : Int32) : Prop :=
  lp (BX11_findSearch_95 K kc64 u0 j4) (M, (J 0))
def CX11_findSearch_64 (K : Int32 → Mem → Prop) (u0 : Nat) (kc64 : (Mem × Int32 × Int32) → Prop) (M : Mem) (x2 : Int32) (x3 : Int32) : Prop :=
  xbr (x3 = (J 0)) (
    K x2 M) (
    PX11_weighed u0 M fun r4 =>
    ∃ y6 : Int32, y6 = (r4 / (LJ 1000)).toInt32 ∧
    xbr (x2 < (J 0)) (
      JX11_findSearch_89 K kc64 M u0 y6) (
      xbr (x2 ≤ y6) (
        JX11_findSearch_124 K kc64 M u0 x2) (
        JX11_findSearch_89 K kc64 M u0 y6)))
def BX11_findSearch_64 (K : Int32 → Mem → Prop) (u0 : Nat) (kc64 : (Mem × Int32 × Int32) → Prop) (s : (Mem × Int32 × Int32)) : Prop := CX11_findSearch_64 K u0 kc64 s.1 s.2.1 s.2.2
def CX11_findSearch_7 (K : Int32 → Mem → Prop) (u0 : Nat) (u1 : Int32) (kc7 : (Mem × Int32) → Prop) (M : Mem) (x2 : Int32) : Prop :=
  xbr ((J 8) ≤ x2) (
    lp (BX11_findSearch_64 K u0) (M, (J (-1)), (J 1))) (
    gR M 12 u0 28 fun q17 =>
    PX11_likelyOn u0 u1 x2 M fun r18 =>
    aS M q17 x2 r18 fun M20 =>
    gR M20 12 u0 28 fun q21 =>
    aI M20 q21 x2 fun v22 =>
    xbr (v22 ≤ (J 0)) (
      kc7 (M20, (x2 + (J 1)))) (
      gR M20 12 u0 26 fun q24 =>
      gI M20 12 u0 25 fun v25 =>
      aS M20 q24 v25 x2 fun M26 =>
      gI M26 12 u0 25 fun v27 =>
      pF M26 12 u0 25 (.int (v27 + (J 1))) fun M28 =>
      kc7 (M28, (x2 + (J 1)))))
def BX11_findSearch_7 (K : Int32 → Mem → Prop) (u0 : Nat) (u1 : Int32) (kc7 : (Mem × Int32) → Prop) (s : (Mem × Int32)) : Prop := CX11_findSearch_7 K u0 u1 kc7 s.1 s.2
def PX11_findSearch (a0 : Nat) (x1 : Int32) (M : Mem) (K : Int32 → Mem → Prop) : Prop :=
tS M 12 a0 (
  pF M 12 a0 25 (.int (J 0)) fun M1 =>
  lp (BX11_findSearch_7 K a0 x1) (M1, (J 0)))
theorem tX11_findSearch {a0 : Nat} {x1 : Int32} {M : Mem} {K : Int32 → Mem → Prop} (h : PX11_findSearch a0 x1 M K) : (M.1 a0).1 = 12 := h.1
def PX11_search (a0 : Nat) (x1 : Int32) (x2 : Int32) (M : Mem) (K : Int32 → Mem → Prop) : Prop :=
tS M 12 a0 (
  PX11_isBook a0 x1 M fun r1 =>
  xbr (r1 = (J 0)) (
    K (J (-1001)) M) (
    PX11_placeOf a0 x1 M fun r4 =>
    xbr (r4 < (J 0)) (
      PX11_findSearch a0 x1 M fun r7 M8 =>
      xbr (x2 = (J (-1))) (
        K r7 M8) (
        gI M8 12 a0 25 fun v10 =>
        PX11_in x2.toInt64 (LJ 0) (v10 - (J 1)).toInt64 M8 fun r11 =>
        xbr (r11 = (J 0)) (
          K (J (-1)) M8) (
          gR M8 12 a0 27 fun q14 =>
          aI M8 q14 x2 fun v15 =>
          K v15 M8))) (
      K (J (-1003)) M)))
theorem tX11_search {a0 : Nat} {x1 : Int32} {x2 : Int32} {M : Mem} {K : Int32 → Mem → Prop} (h : PX11_search a0 x1 x2 M K) : (M.1 a0).1 = 12 := h.1
def PX11_seed (a0 : Nat) (x1 : Int32) (M : Mem) (K : Int32 → Mem → Prop) : Prop :=
tS M 12 a0 (
  xbr ((J 0) ≤ x1) (
    gI M 12 a0 29 fun v2 =>
    pF M 12 a0 29 (.int x1) fun M3 =>
    K v2 M3) (
    K (J (-1002)) M))
theorem tX11_seed {a0 : Nat} {x1 : Int32} {M : Mem} {K : Int32 → Mem → Prop} (h : PX11_seed a0 x1 M K) : (M.1 a0).1 = 12 := h.1
def PX11_draw (a0 : Nat) (x1 : Int32) (M : Mem) (K : Int32 → Mem → Prop) : Prop :=
tS M 12 a0 (
  gI M 12 a0 29 fun v1 =>
  pF M 12 a0 29 (.int (((v1.toInt64 * (LJ 1103515245)) + (LJ 12345)) - ((v1.toInt64 * (LJ 1103515245)) + (LJ 12345)) / (LJ 2147483648) * (LJ 2147483648)).toInt32) fun M2 =>
  gI M2 12 a0 29 fun v3 =>
  ¬ x1 = 0 ∧
  K ((v3 / (J 65536)) - (v3 / (J 65536)) / x1 * x1) M2)
theorem tX11_draw {a0 : Nat} {x1 : Int32} {M : Mem} {K : Int32 → Mem → Prop} (h : PX11_draw a0 x1 M K) : (M.1 a0).1 = 12 := h.1
def CX11_drawReading_18 (K : Int32 → Mem → Prop) (M : Mem) (u0 : Nat) (u1 : Int32) (kc18 : (Int32 × Int32) → Prop) (x2 : Int32) (x3 : Int32) : Prop :=
  xbr (u1 < x3) (
    K x2 M) (
    gR M 12 u0 11 fun q8 =>
    aI M q8 (x2 + (J 1)) fun v9 =>
    ∃ y10 : Int32, y10 = (x3 + v9) ∧
    kc18 ((x2 + (J 1)), y10))
def BX11_drawReading_18 (K : Int32 → Mem → Prop) (M : Mem) (u0 : Nat) (u1 : Int32) (kc18 : (Int32 × Int32) → Prop) (s : (Int32 × Int32)) : Prop := CX11_drawReading_18 K M u0 u1 kc18 s.1 s.2
def PX11_drawReading (a0 : Nat) (M : Mem) (K : Int32 → Mem → Prop) : Prop :=
tS M 12 a0 (
  PX11_allHabits a0 M fun r1 =>
  PX11_draw a0 r1 M fun r3 M4 =>
  gR M4 12 a0 11 fun q5 =>
  aI M4 q5 (J 0) fun v6 =>
  lp (BX11_drawReading_18 K M4 a0 r3) ((J 0), v6))
theorem tX11_drawReading {a0 : Nat} {M : Mem} {K : Int32 → Mem → Prop} (h : PX11_drawReading a0 M K) : (M.1 a0).1 = 12 := h.1
def JX11_shelve_77 (K : Int32 → Mem → Prop) (kc27 : (Mem × Int32 × Int32) → Prop) (M : Mem) (u0 : Nat) (u1 : Int32) (j3 : Int32) (j4 : Int32) (s0 : Int32) (s1 : Int32) : Prop :=
  ∃ y22 : Int32, y22 = (s1 + s0) ∧
  xbr (j4 = (J 0)) (
    PX11_back u0 M fun M25 =>
    kc27 (M25, y22, (j3 + (J 1)))) (
    kc27 (M, y22, (j3 + (J 1))))
def CX11_shelve_27 (K : Int32 → Mem → Prop) (u0 : Nat) (u1 : Int32) (kc27 : (Mem × Int32 × Int32) → Prop) (M : Mem) (x2 : Int32) (x3 : Int32) : Prop :=
  gI M 12 u0 0 fun v7 =>
  xbr (v7 ≤ x3) (
    K x2 M) (
    PX11_has u1 x3 M fun r9 =>
    xbr (r9 = (J 0)) (
      kc27 (M, x2, (x3 + (J 1)))) (
      PX11_placeOf u0 x3 M fun r12 =>
      xbr ((J 0) ≤ r12) (
        kc27 (M, x2, (x3 + (J 1)))) (
        PX11_save u0 M fun M16 =>
        PX11_drawReading u0 M16 fun r17 M18 =>
        PX11_putNow u0 x3 r17 M18 fun r19 M20 =>
        xbr (r19 = (J 0)) (
          JX11_shelve_77 K kc27 M20 u0 u1 x3 r19 (J 0) x2) (
          JX11_shelve_77 K kc27 M20 u0 u1 x3 r19 (J 1) x2))))
def BX11_shelve_27 (K : Int32 → Mem → Prop) (u0 : Nat) (u1 : Int32) (kc27 : (Mem × Int32 × Int32) → Prop) (s : (Mem × Int32 × Int32)) : Prop := CX11_shelve_27 K u0 u1 kc27 s.1 s.2.1 s.2.2
def PX11_shelve (a0 : Nat) (x1 : Int32) (M : Mem) (K : Int32 → Mem → Prop) : Prop :=
tS M 12 a0 (
  PX11_areBooks a0 x1 M fun r1 =>
  xbr (r1 = (J 0)) (
    K (J (-1002)) M) (
    PX11_allHabits a0 M fun r4 =>
    xbr (r4 = (J 0)) (
      K (J (-1003)) M) (
      lp (BX11_shelve_27 K a0 x1) (M, (J 0), (J 0)))))
theorem tX11_shelve {a0 : Nat} {x1 : Int32} {M : Mem} {K : Int32 → Mem → Prop} (h : PX11_shelve a0 x1 M K) : (M.1 a0).1 = 12 := h.1
def CX11_keep_85 (K : Int32 → Mem → Prop) (u0 : Nat) (u1 : Int32) (u2 : Int32) (kc85 : (Mem × Int32) → Prop) (M : Mem) (x3 : Int32) : Prop :=
  xbr ((J 24) ≤ x3) (
    gR M 12 u0 31 fun q16 =>
    zS M q16 u1 (J 1) fun M17 =>
    K (J 1) M17) (
    gR M 12 u0 30 fun q18 =>
    gR M 12 u0 8 fun q19 =>
    aI M q19 x3 fun v20 =>
    aS M q18 ((u2 + (J 11)) + x3) v20 fun M21 =>
    kc85 (M21, (x3 + (J 1))))
def BX11_keep_85 (K : Int32 → Mem → Prop) (u0 : Nat) (u1 : Int32) (u2 : Int32) (kc85 : (Mem × Int32) → Prop) (s : (Mem × Int32)) : Prop := CX11_keep_85 K u0 u1 u2 kc85 s.1 s.2
def CX11_keep_55 (K : Int32 → Mem → Prop) (u0 : Nat) (u1 : Int32) (u2 : Int32) (kc55 : (Mem × Int32) → Prop) (M : Mem) (x3 : Int32) : Prop :=
  xbr ((J 8) ≤ x3) (
    lp (BX11_keep_85 K u0 u1 u2) (M, (J 0))) (
    gR M 12 u0 30 fun q22 =>
    gR M 12 u0 9 fun q23 =>
    aI M q23 x3 fun v24 =>
    aS M q22 ((u2 + (J 3)) + x3) v24 fun M25 =>
    kc55 (M25, (x3 + (J 1))))
def BX11_keep_55 (K : Int32 → Mem → Prop) (u0 : Nat) (u1 : Int32) (u2 : Int32) (kc55 : (Mem × Int32) → Prop) (s : (Mem × Int32)) : Prop := CX11_keep_55 K u0 u1 u2 kc55 s.1 s.2
def PX11_keep (a0 : Nat) (x1 : Int32) (M : Mem) (K : Int32 → Mem → Prop) : Prop :=
tS M 12 a0 (
  PX11_in x1.toInt64 (LJ 0) (LJ 1) M fun r1 =>
  xbr (r1 = (J 0)) (
    K (J (-1001)) M) (
    ∃ y4 : Int32, y4 = ((J 40) * x1) ∧
    gR M 12 a0 30 fun q5 =>
    gI M 12 a0 7 fun v6 =>
    aS M q5 y4 v6 fun M7 =>
    gR M7 12 a0 30 fun q8 =>
    gI M7 12 a0 10 fun v9 =>
    aS M7 q8 (y4 + (J 1)) v9 fun M10 =>
    gR M10 12 a0 30 fun q11 =>
    gI M10 12 a0 29 fun v12 =>
    aS M10 q11 (y4 + (J 2)) v12 fun M13 =>
    lp (BX11_keep_55 K a0 x1 y4) (M13, (J 0))))
theorem tX11_keep {a0 : Nat} {x1 : Int32} {M : Mem} {K : Int32 → Mem → Prop} (h : PX11_keep a0 x1 M K) : (M.1 a0).1 = 12 := h.1
def CX11_goBack_112 (K : Int32 → Mem → Prop) (M : Mem) (u0 : Nat) (u2 : Int32) (kc112 : (Int32 × Int32) → Prop) (x3 : Int32) (x4 : Int32) : Prop :=
  xbr ((J 8) ≤ x4) (
    xbr (x3 = (J 0)) (
      PX11_back u0 M fun M24 =>
      K (J (-1003)) M24) (
      gR M 12 u0 30 fun q17 =>
      aI M q17 (u2 + (J 1)) fun v18 =>
      pF M 12 u0 10 (.int v18) fun M19 =>
      gR M19 12 u0 30 fun q20 =>
      aI M19 q20 (u2 + (J 2)) fun v21 =>
      pF M19 12 u0 29 (.int v21) fun M22 =>
      K (J 1) M22)) (
    xbr (x3 = (J 0)) (
      kc112 ((J 0), (x4 + (J 1)))) (
      PX11_roomOn u0 x4 M fun r26 =>
      xbr (r26 < (J 0)) (
        kc112 ((J 0), (x4 + (J 1)))) (
        kc112 ((J 1), (x4 + (J 1))))))
def BX11_goBack_112 (K : Int32 → Mem → Prop) (M : Mem) (u0 : Nat) (u2 : Int32) (kc112 : (Int32 × Int32) → Prop) (s : (Int32 × Int32)) : Prop := CX11_goBack_112 K M u0 u2 kc112 s.1 s.2
def CX11_goBack_78 (K : Int32 → Mem → Prop) (u0 : Nat) (u2 : Int32) (kc78 : (Mem × Int32) → Prop) (M : Mem) (x3 : Int32) : Prop :=
  xbr ((J 24) ≤ x3) (
    lp (BX11_goBack_112 K M u0 u2) ((J 1), (J 0))) (
    gR M 12 u0 8 fun q29 =>
    gR M 12 u0 30 fun q30 =>
    aI M q30 ((u2 + (J 11)) + x3) fun v31 =>
    aS M q29 x3 v31 fun M32 =>
    kc78 (M32, (x3 + (J 1))))
def BX11_goBack_78 (K : Int32 → Mem → Prop) (u0 : Nat) (u2 : Int32) (kc78 : (Mem × Int32) → Prop) (s : (Mem × Int32)) : Prop := CX11_goBack_78 K u0 u2 kc78 s.1 s.2
def CX11_goBack_48 (K : Int32 → Mem → Prop) (u0 : Nat) (u2 : Int32) (kc48 : (Mem × Int32) → Prop) (M : Mem) (x3 : Int32) : Prop :=
  xbr ((J 8) ≤ x3) (
    lp (BX11_goBack_78 K u0 u2) (M, (J 0))) (
    gR M 12 u0 9 fun q33 =>
    gR M 12 u0 30 fun q34 =>
    aI M q34 ((u2 + (J 3)) + x3) fun v35 =>
    aS M q33 x3 v35 fun M36 =>
    kc48 (M36, (x3 + (J 1))))
def BX11_goBack_48 (K : Int32 → Mem → Prop) (u0 : Nat) (u2 : Int32) (kc48 : (Mem × Int32) → Prop) (s : (Mem × Int32)) : Prop := CX11_goBack_48 K u0 u2 kc48 s.1 s.2
def PX11_goBack (a0 : Nat) (x1 : Int32) (M : Mem) (K : Int32 → Mem → Prop) : Prop :=
tS M 12 a0 (
  PX11_in x1.toInt64 (LJ 0) (LJ 1) M fun r1 =>
  xbr (r1 = (J 0)) (
    K (J (-1001)) M) (
    gR M 12 a0 31 fun q4 =>
    zI M q4 x1 fun v5 =>
    xbr (v5 = (J 0)) (
      K (J (-1003)) M) (
      ∃ y7 : Int32, y7 = ((J 40) * x1) ∧
      PX11_save a0 M fun M9 =>
      gR M9 12 a0 30 fun q10 =>
      aI M9 q10 y7 fun v11 =>
      pF M9 12 a0 7 (.int v11) fun M12 =>
      lp (BX11_goBack_48 K a0 y7) (M12, (J 0)))))
theorem tX11_goBack {a0 : Nat} {x1 : Int32} {M : Mem} {K : Int32 → Mem → Prop} (h : PX11_goBack a0 x1 M K) : (M.1 a0).1 = 12 := h.1
