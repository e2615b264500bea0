/-! THE SCRIPT, call by call -/
/-- a call brings both on alike -/
def STEP (z ck cn : Nat) (x : Int) (X : ((Mem × Nat × Nat × Int32) → Prop) → Prop) : Prop := ∃ (C' : Nat → Nat → Int) (g' : Mem) (nb' : Nat) (A' : Rw) (ck' cn' : Nat), Inv C' nb' A' ∧ z + 125 ≤ g'.2.2 ∧ ck' ≤ ck + 1 ∧ cn' ≤ cn + 8 ∧ ∀ kc, X kc = kc (lay z g' C', ck', cn', J (x + 4))
/-- what a call reads of the script, and that there is room for it -/
def SCR (xs : Nat → Int32) (Ln ck cn : Nat) (x a1 a2 a3 : Int) : Prop := (∀ K, sI xs Ln (J x + J 1) K = K (J a1)) ∧ (∀ K, sI xs Ln (J x + J 2) K = K (J a2)) ∧ (∀ K, sI xs Ln (J x + J 3) K = K (J a3)) ∧ (-2147483648 ≤ a1 ∧ a1 < 2147483648) ∧ (-2147483648 ≤ a2 ∧ a2 < 2147483648) ∧ (-2147483648 ≤ a3 ∧ a3 < 2147483648) ∧ (ck ≤ 600000 ∧ cn ≤ 7302250) = True ∧ (ck + 1 ≤ 600000 ∧ cn + 8 ≤ 7302250) = True ∧ J x + J 4 = J (x + 4)
section STE
variable {z Ln b nb ck cn : Nat} {g : Mem} {C : Nat → Nat → Int} {A : Rw} {xs : Nat → Int32} {K : Int32 → Prop} {x a1 a2 a3 : Int}
theorem STEP.br {c : Prop} {X1 X2 : ((Mem × Nat × Nat × Int32) → Prop) → Prop} (h1 : STEP z ck cn x X1) (h2 : STEP z ck cn x X2) : STEP z ck cn x (fun kc => xbr c (X1 kc) (X2 kc)) := by
  by_cases q : c
  · simp only [xbr_pos q]; exact h1
  · simp only [xbr_neg q]; exact h2
theorem st_feed (h : Inv C nb A) (hz : z + 125 ≤ g.2.2) (hs : SCR xs Ln ck cn x a1 a2 a3) : STEP z ck cn x (fun kc => sI xs Ln ((J x) + (J 1)) fun v13 => sI xs Ln ((J x) + (J 2)) fun v14 => sI xs Ln ((J x) + (J 3)) fun v15 => (ck ≤ 600000 ∧ cn ≤ 7302250) ∧ PX10_feed (ad z 0) v13 ((v14.toInt64 <<< ((J 32).toInt64 &&& 63)) ||| (v15.toInt64 &&& (LJ 4294967295))) (lay z g C) fun r16 M17 => sI xs Ln ((J x) + (J 1)) fun v18 => sI xs Ln ((J x) + (J 2)) fun v19 => sI xs Ln ((J x) + (J 3)) fun v20 => (ck ≤ 600000 ∧ cn ≤ 7302250) ∧ PX11_feed (ad z 104) v18 ((v19.toInt64 <<< ((J 32).toInt64 &&& 63)) ||| (v20.toInt64 &&& (LJ 4294967295))) M17 fun r21 M22 => xbr (r16 = r21) ( kc (M22, ck, cn, ((J x) + (J 4)))) ( False)) := by
  obtain ⟨s1, s2, s3, r1, r2, r3, c0, c1, nx⟩ := hs
  obtain ⟨r, C1, C2, e1, e2, h2⟩ := op_feed (z := z) (g := g) h (n := a1) (X := (((J a2).toInt64 <<< ((J 32).toInt64 &&& 63)) ||| ((J a3).toInt64 &&& (LJ 4294967295)))) r1
  exact ⟨C2, g, nb, A, ck, cn, h2, hz, by omega, by omega, fun kc => by
    simp only [s1, s2, s3, c0, c1, true_and, e1, e2, eq_self, xbr_true, nx]⟩
theorem st_books (h : Inv C nb A) (hz : z + 125 ≤ g.2.2) (hs : SCR xs Ln ck cn x a1 a2 a3) : STEP z ck cn x (fun kc => (ck + 1 ≤ 600000 ∧ cn + 8 ≤ 7302250) ∧ PX10_books (ad z 0) (lay z g C) fun r25 M26 => (ck + 1 ≤ 600000 ∧ cn + 8 ≤ 7302250) ∧ PX11_books (ad z 104) M26 fun r27 M28 => xbr (r25 = r27) ( kc (M28, ck + 1, cn + 8, ((J x) + (J 4)))) ( False)) := by
  obtain ⟨s1, s2, s3, r1, r2, r3, c0, c1, nx⟩ := hs
  obtain ⟨r, C1, C2, g', nb', e1, e2, hz', h2⟩ := op_books (z := z) (g := g) h hz
  exact ⟨C2, g', nb', A, ck + 1, cn + 8, h2, hz', by omega, by omega, fun kc => by
    simp only [s1, s2, s3, c0, c1, true_and, e1, e2, eq_self, xbr_true, nx]⟩
theorem st_fault (h : Inv C nb A) (hz : z + 125 ≤ g.2.2) (hs : SCR xs Ln ck cn x a1 a2 a3) : STEP z ck cn x (fun kc => (ck ≤ 600000 ∧ cn ≤ 7302250) ∧ PX10_fault (ad z 0) (lay z g C) fun r31 => (ck ≤ 600000 ∧ cn ≤ 7302250) ∧ PX11_fault (ad z 104) (lay z g C) fun r33 => xbr (r31 = r33) ( kc ((lay z g C), ck, cn, ((J x) + (J 4)))) ( False)) := by
  obtain ⟨s1, s2, s3, r1, r2, r3, c0, c1, nx⟩ := hs
  obtain ⟨v, e1, e2⟩ := op_fault (z := z) (g := g) h 
  exact ⟨C, g, nb, A, ck, cn, h, hz, by omega, by omega, fun kc => by
    simp only [s1, s2, s3, c0, c1, true_and, e1, e2, eq_self, xbr_true, nx]⟩
theorem st_book (h : Inv C nb A) (hz : z + 125 ≤ g.2.2) (hs : SCR xs Ln ck cn x a1 a2 a3) : STEP z ck cn x (fun kc => sI xs Ln ((J x) + (J 1)) fun v37 => sI xs Ln ((J x) + (J 2)) fun v38 => (ck ≤ 600000 ∧ cn ≤ 7302250) ∧ PX10_book (ad z 0) v37 v38 (lay z g C) fun r39 => sI xs Ln ((J x) + (J 1)) fun v41 => sI xs Ln ((J x) + (J 2)) fun v42 => (ck ≤ 600000 ∧ cn ≤ 7302250) ∧ PX11_book (ad z 104) v41 v42 (lay z g C) fun r43 => xbr (r39 = r43) ( kc ((lay z g C), ck, cn, ((J x) + (J 4)))) ( False)) := by
  obtain ⟨s1, s2, s3, r1, r2, r3, c0, c1, nx⟩ := hs
  obtain ⟨v, e1, e2⟩ := op_book (z := z) (g := g) h r1 r2
  exact ⟨C, g, nb, A, ck, cn, h, hz, by omega, by omega, fun kc => by
    simp only [s1, s2, s3, c0, c1, true_and, e1, e2, eq_self, xbr_true, nx]⟩
theorem st_mark (h : Inv C nb A) (hz : z + 125 ≤ g.2.2) (hs : SCR xs Ln ck cn x a1 a2 a3) : STEP z ck cn x (fun kc => sI xs Ln ((J x) + (J 1)) fun v47 => sI xs Ln ((J x) + (J 2)) fun v48 => (ck ≤ 600000 ∧ cn ≤ 7302250) ∧ PX10_mark (ad z 0) v47 v48 (lay z g C) fun r49 => sI xs Ln ((J x) + (J 1)) fun v51 => sI xs Ln ((J x) + (J 2)) fun v52 => (ck ≤ 600000 ∧ cn ≤ 7302250) ∧ PX11_mark (ad z 104) v51 v52 (lay z g C) fun r53 M54 => xbr (r49 = r53) ( kc (M54, ck, cn, ((J x) + (J 4)))) ( False)) := by
  obtain ⟨s1, s2, s3, r1, r2, r3, c0, c1, nx⟩ := hs
  obtain ⟨r, C2, e1, e2, h2⟩ := op_mark (z := z) (g := g) h r1 r2
  exact ⟨C2, g, nb, A, ck, cn, h2, hz, by omega, by omega, fun kc => by
    simp only [s1, s2, s3, c0, c1, true_and, e1, e2, eq_self, xbr_true, nx]⟩
theorem st_ahead (h : Inv C nb A) (hz : z + 125 ≤ g.2.2) (hs : SCR xs Ln ck cn x a1 a2 a3) : STEP z ck cn x (fun kc => sI xs Ln ((J x) + (J 1)) fun v57 => sI xs Ln ((J x) + (J 2)) fun v58 => sI xs Ln ((J x) + (J 3)) fun v59 => (ck ≤ 600000 ∧ cn ≤ 7302250) ∧ PX10_ahead (ad z 0) v57 v58 v59 (lay z g C) fun r60 => sI xs Ln ((J x) + (J 1)) fun v62 => sI xs Ln ((J x) + (J 2)) fun v63 => sI xs Ln ((J x) + (J 3)) fun v64 => (ck ≤ 600000 ∧ cn ≤ 7302250) ∧ PX11_ahead (ad z 104) v62 v63 v64 (lay z g C) fun r65 => xbr (r60 = r65) ( kc ((lay z g C), ck, cn, ((J x) + (J 4)))) ( False)) := by
  obtain ⟨s1, s2, s3, r1, r2, r3, c0, c1, nx⟩ := hs
  obtain ⟨v, e1, e2⟩ := op_ahead (z := z) (g := g) h r1 r2 r3
  exact ⟨C, g, nb, A, ck, cn, h, hz, by omega, by omega, fun kc => by
    simp only [s1, s2, s3, c0, c1, true_and, e1, e2, eq_self, xbr_true, nx]⟩
theorem st_order (h : Inv C nb A) (hz : z + 125 ≤ g.2.2) (hs : SCR xs Ln ck cn x a1 a2 a3) : STEP z ck cn x (fun kc => sI xs Ln ((J x) + (J 1)) fun v69 => sI xs Ln ((J x) + (J 2)) fun v70 => (ck ≤ 600000 ∧ cn ≤ 7302250) ∧ PX10_order (ad z 0) v69 v70 (lay z g C) fun r71 M72 => sI xs Ln ((J x) + (J 1)) fun v73 => sI xs Ln ((J x) + (J 2)) fun v74 => (ck ≤ 600000 ∧ cn ≤ 7302250) ∧ PX11_order (ad z 104) v73 v74 M72 fun r75 => xbr (r71 = r75) ( kc (M72, ck, cn, ((J x) + (J 4)))) ( False)) := by
  obtain ⟨s1, s2, s3, r1, r2, r3, c0, c1, nx⟩ := hs
  obtain ⟨r, C1, C2, e1, e2, e3, h2⟩ := op_order (z := z) (g := g) h r1 r2
  rw [e3] at h2
  exact ⟨C1, g, nb, A, ck, cn, h2, hz, by omega, by omega, fun kc => by
    simp only [s1, s2, s3, c0, c1, true_and, e1, e2, eq_self, xbr_true, nx]⟩
theorem st_count (h : Inv C nb A) (hz : z + 125 ≤ g.2.2) (hs : SCR xs Ln ck cn x a1 a2 a3) : STEP z ck cn x (fun kc => sI xs Ln ((J x) + (J 1)) fun v79 => (ck ≤ 600000 ∧ cn ≤ 7302250) ∧ PX10_count (ad z 0) v79 (lay z g C) fun r80 => sI xs Ln ((J x) + (J 1)) fun v82 => (ck ≤ 600000 ∧ cn ≤ 7302250) ∧ PX11_count (ad z 104) v82 (lay z g C) fun r83 => xbr (r80 = r83) ( kc ((lay z g C), ck, cn, ((J x) + (J 4)))) ( False)) := by
  obtain ⟨s1, s2, s3, r1, r2, r3, c0, c1, nx⟩ := hs
  obtain ⟨v, e1, e2⟩ := op_count (z := z) (g := g) h r1
  exact ⟨C, g, nb, A, ck, cn, h, hz, by omega, by omega, fun kc => by
    simp only [s1, s2, s3, c0, c1, true_and, e1, e2, eq_self, xbr_true, nx]⟩
theorem st_width (h : Inv C nb A) (hz : z + 125 ≤ g.2.2) (hs : SCR xs Ln ck cn x a1 a2 a3) : STEP z ck cn x (fun kc => sI xs Ln ((J x) + (J 1)) fun v87 => sI xs Ln ((J x) + (J 2)) fun v88 => (ck ≤ 600000 ∧ cn ≤ 7302250) ∧ PX10_width (ad z 0) v87 v88 (lay z g C) fun r89 M90 => sI xs Ln ((J x) + (J 1)) fun v91 => sI xs Ln ((J x) + (J 2)) fun v92 => (ck ≤ 600000 ∧ cn ≤ 7302250) ∧ PX11_width (ad z 104) v91 v92 M90 fun r93 M94 => xbr (r89 = r93) ( kc (M94, ck, cn, ((J x) + (J 4)))) ( False)) := by
  obtain ⟨s1, s2, s3, r1, r2, r3, c0, c1, nx⟩ := hs
  obtain ⟨r, C1, C2, e1, e2, h2⟩ := op_width (z := z) (g := g) h r1 r2
  exact ⟨C2, g, nb, A, ck, cn, h2, hz, by omega, by omega, fun kc => by
    simp only [s1, s2, s3, c0, c1, true_and, e1, e2, eq_self, xbr_true, nx]⟩
theorem st_shelf (h : Inv C nb A) (hz : z + 125 ≤ g.2.2) (hs : SCR xs Ln ck cn x a1 a2 a3) : STEP z ck cn x (fun kc => sI xs Ln ((J x) + (J 1)) fun v97 => sI xs Ln ((J x) + (J 2)) fun v98 => (ck ≤ 600000 ∧ cn ≤ 7302250) ∧ PX10_shelf (ad z 0) v97 v98 (lay z g C) fun r99 => sI xs Ln ((J x) + (J 1)) fun v101 => sI xs Ln ((J x) + (J 2)) fun v102 => (ck ≤ 600000 ∧ cn ≤ 7302250) ∧ PX11_shelf (ad z 104) v101 v102 (lay z g C) fun r103 => xbr (r99 = r103) ( kc ((lay z g C), ck, cn, ((J x) + (J 4)))) ( False)) := by
  obtain ⟨s1, s2, s3, r1, r2, r3, c0, c1, nx⟩ := hs
  obtain ⟨v, e1, e2⟩ := op_shelf (z := z) (g := g) h r1 r2
  exact ⟨C, g, nb, A, ck, cn, h, hz, by omega, by omega, fun kc => by
    simp only [s1, s2, s3, c0, c1, true_and, e1, e2, eq_self, xbr_true, nx]⟩
theorem st_room (h : Inv C nb A) (hz : z + 125 ≤ g.2.2) (hs : SCR xs Ln ck cn x a1 a2 a3) : STEP z ck cn x (fun kc => sI xs Ln ((J x) + (J 1)) fun v107 => (ck ≤ 600000 ∧ cn ≤ 7302250) ∧ PX10_room (ad z 0) v107 (lay z g C) fun r108 => sI xs Ln ((J x) + (J 1)) fun v110 => (ck ≤ 600000 ∧ cn ≤ 7302250) ∧ PX11_room (ad z 104) v110 (lay z g C) fun r111 => xbr (r108 = r111) ( kc ((lay z g C), ck, cn, ((J x) + (J 4)))) ( False)) := by
  obtain ⟨s1, s2, s3, r1, r2, r3, c0, c1, nx⟩ := hs
  obtain ⟨v, e1, e2⟩ := op_room (z := z) (g := g) h r1
  exact ⟨C, g, nb, A, ck, cn, h, hz, by omega, by omega, fun kc => by
    simp only [s1, s2, s3, c0, c1, true_and, e1, e2, eq_self, xbr_true, nx]⟩
theorem st_set (h : Inv C nb A) (hz : z + 125 ≤ g.2.2) (hs : SCR xs Ln ck cn x a1 a2 a3) : STEP z ck cn x (fun kc => sI xs Ln ((J x) + (J 1)) fun v115 => sI xs Ln ((J x) + (J 2)) fun v116 => sI xs Ln ((J x) + (J 3)) fun v117 => (ck ≤ 600000 ∧ cn ≤ 7302250) ∧ PX10_set (ad z 0) v115 v116 v117 (lay z g C) fun r118 M119 => sI xs Ln ((J x) + (J 1)) fun v120 => sI xs Ln ((J x) + (J 2)) fun v121 => sI xs Ln ((J x) + (J 3)) fun v122 => (ck ≤ 600000 ∧ cn ≤ 7302250) ∧ PX11_set (ad z 104) v120 v121 v122 M119 fun r123 M124 => xbr (r118 = r123) ( kc (M124, ck, cn, ((J x) + (J 4)))) ( False)) := by
  obtain ⟨s1, s2, s3, r1, r2, r3, c0, c1, nx⟩ := hs
  obtain ⟨r, C1, C2, A2, e1, e2, h2⟩ := op_set (z := z) (g := g) h r1 r2 r3
  exact ⟨C2, g, nb, A2, ck, cn, h2, hz, by omega, by omega, fun kc => by
    simp only [s1, s2, s3, c0, c1, true_and, e1, e2, eq_self, xbr_true, nx]⟩
theorem st_put (h : Inv C nb A) (hz : z + 125 ≤ g.2.2) (hs : SCR xs Ln ck cn x a1 a2 a3) : STEP z ck cn x (fun kc => sI xs Ln ((J x) + (J 1)) fun v127 => sI xs Ln ((J x) + (J 2)) fun v128 => (ck ≤ 600000 ∧ cn ≤ 7302250) ∧ PX10_put (ad z 0) v127 v128 (lay z g C) fun r129 M130 => sI xs Ln ((J x) + (J 1)) fun v131 => sI xs Ln ((J x) + (J 2)) fun v132 => (ck ≤ 600000 ∧ cn ≤ 7302250) ∧ PX11_put (ad z 104) v131 v132 M130 fun r133 M134 => xbr (r129 = r133) ( kc (M134, ck, cn, ((J x) + (J 4)))) ( False)) := by
  obtain ⟨s1, s2, s3, r1, r2, r3, c0, c1, nx⟩ := hs
  obtain ⟨r, C1, C2, A2, e1, e2, h2⟩ := op_put (z := z) (g := g) h r1 r2
  exact ⟨C2, g, nb, A2, ck, cn, h2, hz, by omega, by omega, fun kc => by
    simp only [s1, s2, s3, c0, c1, true_and, e1, e2, eq_self, xbr_true, nx]⟩
theorem st_take (h : Inv C nb A) (hz : z + 125 ≤ g.2.2) (hs : SCR xs Ln ck cn x a1 a2 a3) : STEP z ck cn x (fun kc => sI xs Ln ((J x) + (J 1)) fun v137 => (ck ≤ 600000 ∧ cn ≤ 7302250) ∧ PX10_take (ad z 0) v137 (lay z g C) fun r138 M139 => sI xs Ln ((J x) + (J 1)) fun v140 => (ck ≤ 600000 ∧ cn ≤ 7302250) ∧ PX11_take (ad z 104) v140 M139 fun r141 M142 => xbr (r138 = r141) ( kc (M142, ck, cn, ((J x) + (J 4)))) ( False)) := by
  obtain ⟨s1, s2, s3, r1, r2, r3, c0, c1, nx⟩ := hs
  obtain ⟨r, C1, C2, A2, e1, e2, h2⟩ := op_take (z := z) (g := g) h r1
  exact ⟨C2, g, nb, A2, ck, cn, h2, hz, by omega, by omega, fun kc => by
    simp only [s1, s2, s3, c0, c1, true_and, e1, e2, eq_self, xbr_true, nx]⟩
theorem st_wrong (h : Inv C nb A) (hz : z + 125 ≤ g.2.2) (hs : SCR xs Ln ck cn x a1 a2 a3) : STEP z ck cn x (fun kc => (ck ≤ 600000 ∧ cn ≤ 7302250) ∧ PX10_wrong (ad z 0) (lay z g C) fun r145 M146 => (ck ≤ 600000 ∧ cn ≤ 7302250) ∧ PX11_wrong (ad z 104) M146 fun r147 M148 => xbr (r145 = r147) ( kc (M148, ck, cn, ((J x) + (J 4)))) ( False)) := by
  obtain ⟨s1, s2, s3, r1, r2, r3, c0, c1, nx⟩ := hs
  obtain ⟨r, C1, C2, e1, e2, h2⟩ := op_wrong (z := z) (g := g) h 
  exact ⟨C2, g, nb, A, ck, cn, h2, hz, by omega, by omega, fun kc => by
    simp only [s1, s2, s3, c0, c1, true_and, e1, e2, eq_self, xbr_true, nx]⟩
theorem st_tidy (h : Inv C nb A) (hz : z + 125 ≤ g.2.2) (hs : SCR xs Ln ck cn x a1 a2 a3) : STEP z ck cn x (fun kc => sI xs Ln ((J x) + (J 1)) fun v151 => (ck ≤ 600000 ∧ cn ≤ 7302250) ∧ PX10_tidy (ad z 0) v151 (lay z g C) fun r152 => sI xs Ln ((J x) + (J 1)) fun v154 => (ck ≤ 600000 ∧ cn ≤ 7302250) ∧ PX11_tidy (ad z 104) v154 (lay z g C) fun r155 => xbr (r152 = r155) ( kc ((lay z g C), ck, cn, ((J x) + (J 4)))) ( False)) := by
  obtain ⟨s1, s2, s3, r1, r2, r3, c0, c1, nx⟩ := hs
  obtain ⟨v, e1, e2⟩ := op_tidy (z := z) (g := g) h r1
  exact ⟨C, g, nb, A, ck, cn, h, hz, by omega, by omega, fun kc => by
    simp only [s1, s2, s3, c0, c1, true_and, e1, e2, eq_self, xbr_true, nx]⟩
theorem st_mend (h : Inv C nb A) (hz : z + 125 ≤ g.2.2) (hs : SCR xs Ln ck cn x a1 a2 a3) : STEP z ck cn x (fun kc => (ck ≤ 600000 ∧ cn ≤ 7302250) ∧ PX10_mend (ad z 0) (lay z g C) fun r159 M160 => (ck ≤ 600000 ∧ cn ≤ 7302250) ∧ PX11_mend (ad z 104) M160 fun r161 M162 => xbr (r159 = r161) ( kc (M162, ck, cn, ((J x) + (J 4)))) ( False)) := by
  obtain ⟨s1, s2, s3, r1, r2, r3, c0, c1, nx⟩ := hs
  obtain ⟨r, C1, C2, A2, e1, e2, h2⟩ := op_mend (z := z) (g := g) h 
  exact ⟨C2, g, nb, A2, ck, cn, h2, hz, by omega, by omega, fun kc => by
    simp only [s1, s2, s3, c0, c1, true_and, e1, e2, eq_self, xbr_true, nx]⟩
theorem st_guess (h : Inv C nb A) (hz : z + 125 ≤ g.2.2) (hs : SCR xs Ln ck cn x a1 a2 a3) : STEP z ck cn x (fun kc => sI xs Ln ((J x) + (J 1)) fun v165 => (ck ≤ 600000 ∧ cn ≤ 7302250) ∧ PX10_guess (ad z 0) v165 (lay z g C) fun r166 M167 => sI xs Ln ((J x) + (J 1)) fun v168 => (ck ≤ 600000 ∧ cn ≤ 7302250) ∧ PX11_guess (ad z 104) v168 M167 fun r169 M170 => xbr (r166 = r169) ( kc (M170, ck, cn, ((J x) + (J 4)))) ( False)) := by
  obtain ⟨s1, s2, s3, r1, r2, r3, c0, c1, nx⟩ := hs
  obtain ⟨r, C1, C2, e1, e2, h2⟩ := op_guess (z := z) (g := g) h r1
  exact ⟨C2, g, nb, A, ck, cn, h2, hz, by omega, by omega, fun kc => by
    simp only [s1, s2, s3, c0, c1, true_and, e1, e2, eq_self, xbr_true, nx]⟩
theorem st_lay (h : Inv C nb A) (hz : z + 125 ≤ g.2.2) (hs : SCR xs Ln ck cn x a1 a2 a3) : STEP z ck cn x (fun kc => sI xs Ln ((J x) + (J 1)) fun v173 => (ck ≤ 600000 ∧ cn ≤ 7302250) ∧ PX10_lay (ad z 0) v173 (lay z g C) fun r174 M175 => sI xs Ln ((J x) + (J 1)) fun v176 => (ck ≤ 600000 ∧ cn ≤ 7302250) ∧ PX11_lay (ad z 104) v176 M175 fun r177 M178 => xbr (r174 = r177) ( kc (M178, ck, cn, ((J x) + (J 4)))) ( False)) := by
  obtain ⟨s1, s2, s3, r1, r2, r3, c0, c1, nx⟩ := hs
  obtain ⟨r, C1, C2, A2, e1, e2, h2⟩ := op_lay (z := z) (g := g) h r1
  exact ⟨C2, g, nb, A2, ck, cn, h2, hz, by omega, by omega, fun kc => by
    simp only [s1, s2, s3, c0, c1, true_and, e1, e2, eq_self, xbr_true, nx]⟩
theorem st_make (h : Inv C nb A) (hz : z + 125 ≤ g.2.2) (hs : SCR xs Ln ck cn x a1 a2 a3) : STEP z ck cn x (fun kc => sI xs Ln ((J x) + (J 1)) fun v181 => sI xs Ln ((J x) + (J 2)) fun v182 => sI xs Ln ((J x) + (J 3)) fun v183 => xbr (v183 = (J 0)) ( JL_law_729 xs Ln b K kc (lay z g C) ck cn (ad z 0) (ad z 104) (J x) (J 0) v182 v181 (ad z 0)) ( JL_law_729 xs Ln b K kc (lay z g C) ck cn (ad z 0) (ad z 104) (J x) (J 1) v182 v181 (ad z 0))) := by
  obtain ⟨s1, s2, s3, r1, r2, r3, c0, c1, nx⟩ := hs
  by_cases c3 : J a3 = J 0
  · obtain ⟨r, C1, C2, A2, e1, e2, h2⟩ := op_make (z := z) (g := g) (x := J 0) h r1 r2
    exact ⟨C2, g, nb, A2, ck, cn, h2, hz, by omega, by omega, fun kc => by
      simp only [s1, s2, s3, xbr_pos c3, JL_law_729, JL_law_756, c0, true_and, e1, e2, eq_self, xbr_true, nx]⟩
  · obtain ⟨r, C1, C2, A2, e1, e2, h2⟩ := op_make (z := z) (g := g) (x := J 1) h r1 r2
    exact ⟨C2, g, nb, A2, ck, cn, h2, hz, by omega, by omega, fun kc => by
      simp only [s1, s2, s3, xbr_neg c3, JL_law_729, JL_law_756, c0, true_and, e1, e2, eq_self, xbr_true, nx]⟩
theorem st_guide (h : Inv C nb A) (hz : z + 125 ≤ g.2.2) (hs : SCR xs Ln ck cn x a1 a2 a3) : STEP z ck cn x (fun kc => sI xs Ln ((J x) + (J 1)) fun v195 => sI xs Ln ((J x) + (J 2)) fun v196 => (ck ≤ 600000 ∧ cn ≤ 7302250) ∧ PX10_guide (ad z 0) v195 v196 (lay z g C) fun r197 => sI xs Ln ((J x) + (J 1)) fun v199 => sI xs Ln ((J x) + (J 2)) fun v200 => (ck ≤ 600000 ∧ cn ≤ 7302250) ∧ PX11_guide (ad z 104) v199 v200 (lay z g C) fun r201 M202 => xbr (r197 = r201) ( kc (M202, ck, cn, ((J x) + (J 4)))) ( False)) := by
  obtain ⟨s1, s2, s3, r1, r2, r3, c0, c1, nx⟩ := hs
  obtain ⟨r, C2, e1, e2, h2⟩ := op_guide (z := z) (g := g) h r1 r2
  exact ⟨C2, g, nb, A, ck, cn, h2, hz, by omega, by omega, fun kc => by
    simp only [s1, s2, s3, c0, c1, true_and, e1, e2, eq_self, xbr_true, nx]⟩
theorem st_list (h : Inv C nb A) (hz : z + 125 ≤ g.2.2) (hs : SCR xs Ln ck cn x a1 a2 a3) : STEP z ck cn x (fun kc => sI xs Ln ((J x) + (J 1)) fun v205 => (ck ≤ 600000 ∧ cn ≤ 7302250) ∧ PX10_list (ad z 0) v205 (lay z g C) fun r206 M207 => sI xs Ln ((J x) + (J 1)) fun v208 => (ck ≤ 600000 ∧ cn ≤ 7302250) ∧ PX11_list (ad z 104) v208 M207 fun r209 M210 => xbr (r206 = r209) ( kc (M210, ck, cn, ((J x) + (J 4)))) ( False)) := by
  obtain ⟨s1, s2, s3, r1, r2, r3, c0, c1, nx⟩ := hs
  obtain ⟨r, C1, C2, e1, e2, h2⟩ := op_list (z := z) (g := g) h r1
  exact ⟨C2, g, nb, A, ck, cn, h2, hz, by omega, by omega, fun kc => by
    simp only [s1, s2, s3, c0, c1, true_and, e1, e2, eq_self, xbr_true, nx]⟩
theorem st_stock (h : Inv C nb A) (hz : z + 125 ≤ g.2.2) (hs : SCR xs Ln ck cn x a1 a2 a3) : STEP z ck cn x (fun kc => sI xs Ln ((J x) + (J 1)) fun v213 => (ck ≤ 600000 ∧ cn ≤ 7302250) ∧ PX10_stock (ad z 0) v213 (lay z g C) fun r214 => sI xs Ln ((J x) + (J 1)) fun v216 => (ck ≤ 600000 ∧ cn ≤ 7302250) ∧ PX11_stock (ad z 104) v216 (lay z g C) fun r217 => xbr (r214 = r217) ( kc ((lay z g C), ck, cn, ((J x) + (J 4)))) ( False)) := by
  obtain ⟨s1, s2, s3, r1, r2, r3, c0, c1, nx⟩ := hs
  obtain ⟨v, e1, e2⟩ := op_stock (z := z) (g := g) h r1
  exact ⟨C, g, nb, A, ck, cn, h, hz, by omega, by omega, fun kc => by
    simp only [s1, s2, s3, c0, c1, true_and, e1, e2, eq_self, xbr_true, nx]⟩
theorem st_habit (h : Inv C nb A) (hz : z + 125 ≤ g.2.2) (hs : SCR xs Ln ck cn x a1 a2 a3) : STEP z ck cn x (fun kc => sI xs Ln ((J x) + (J 1)) fun v221 => sI xs Ln ((J x) + (J 2)) fun v222 => (ck ≤ 600000 ∧ cn ≤ 7302250) ∧ PX10_habit (ad z 0) v221 v222 (lay z g C) fun r223 M224 => sI xs Ln ((J x) + (J 1)) fun v225 => sI xs Ln ((J x) + (J 2)) fun v226 => (ck ≤ 600000 ∧ cn ≤ 7302250) ∧ PX11_habit (ad z 104) v225 v226 M224 fun r227 M228 => xbr (r223 = r227) ( kc (M228, ck, cn, ((J x) + (J 4)))) ( False)) := by
  obtain ⟨s1, s2, s3, r1, r2, r3, c0, c1, nx⟩ := hs
  obtain ⟨r, C1, C2, e1, e2, h2⟩ := op_habit (z := z) (g := g) h r1 r2
  exact ⟨C2, g, nb, A, ck, cn, h2, hz, by omega, by omega, fun kc => by
    simp only [s1, s2, s3, c0, c1, true_and, e1, e2, eq_self, xbr_true, nx]⟩
theorem st_likely (h : Inv C nb A) (hz : z + 125 ≤ g.2.2) (hs : SCR xs Ln ck cn x a1 a2 a3) : STEP z ck cn x (fun kc => sI xs Ln ((J x) + (J 1)) fun v231 => sI xs Ln ((J x) + (J 2)) fun v232 => (ck ≤ 600000 ∧ cn ≤ 7302250) ∧ PX10_likely (ad z 0) v231 v232 (lay z g C) fun r233 => sI xs Ln ((J x) + (J 1)) fun v235 => sI xs Ln ((J x) + (J 2)) fun v236 => (ck ≤ 600000 ∧ cn ≤ 7302250) ∧ PX11_likely (ad z 104) v235 v236 (lay z g C) fun r237 => xbr (r233 = r237) ( kc ((lay z g C), ck, cn, ((J x) + (J 4)))) ( False)) := by
  obtain ⟨s1, s2, s3, r1, r2, r3, c0, c1, nx⟩ := hs
  obtain ⟨v, e1, e2⟩ := op_likely (z := z) (g := g) h r1 r2
  exact ⟨C, g, nb, A, ck, cn, h, hz, by omega, by omega, fun kc => by
    simp only [s1, s2, s3, c0, c1, true_and, e1, e2, eq_self, xbr_true, nx]⟩
theorem st_search (h : Inv C nb A) (hz : z + 125 ≤ g.2.2) (hs : SCR xs Ln ck cn x a1 a2 a3) : STEP z ck cn x (fun kc => sI xs Ln ((J x) + (J 1)) fun v241 => sI xs Ln ((J x) + (J 2)) fun v242 => (ck ≤ 600000 ∧ cn ≤ 7302250) ∧ PX10_search (ad z 0) v241 v242 (lay z g C) fun r243 M244 => sI xs Ln ((J x) + (J 1)) fun v245 => sI xs Ln ((J x) + (J 2)) fun v246 => (ck ≤ 600000 ∧ cn ≤ 7302250) ∧ PX11_search (ad z 104) v245 v246 M244 fun r247 M248 => xbr (r243 = r247) ( kc (M248, ck, cn, ((J x) + (J 4)))) ( False)) := by
  obtain ⟨s1, s2, s3, r1, r2, r3, c0, c1, nx⟩ := hs
  obtain ⟨r, C1, C2, e1, e2, h2⟩ := op_search (z := z) (g := g) h r1 r2
  exact ⟨C2, g, nb, A, ck, cn, h2, hz, by omega, by omega, fun kc => by
    simp only [s1, s2, s3, c0, c1, true_and, e1, e2, eq_self, xbr_true, nx]⟩
theorem st_seed (h : Inv C nb A) (hz : z + 125 ≤ g.2.2) (hs : SCR xs Ln ck cn x a1 a2 a3) : STEP z ck cn x (fun kc => sI xs Ln ((J x) + (J 1)) fun v251 => (ck ≤ 600000 ∧ cn ≤ 7302250) ∧ PX10_seed (ad z 0) v251 (lay z g C) fun r252 M253 => sI xs Ln ((J x) + (J 1)) fun v254 => (ck ≤ 600000 ∧ cn ≤ 7302250) ∧ PX11_seed (ad z 104) v254 M253 fun r255 M256 => xbr (r252 = r255) ( kc (M256, ck, cn, ((J x) + (J 4)))) ( False)) := by
  obtain ⟨s1, s2, s3, r1, r2, r3, c0, c1, nx⟩ := hs
  obtain ⟨r, C1, C2, e1, e2, h2⟩ := op_seed (z := z) (g := g) h r1
  exact ⟨C2, g, nb, A, ck, cn, h2, hz, by omega, by omega, fun kc => by
    simp only [s1, s2, s3, c0, c1, true_and, e1, e2, eq_self, xbr_true, nx]⟩
theorem st_shelve (h : Inv C nb A) (hz : z + 125 ≤ g.2.2) (hs : SCR xs Ln ck cn x a1 a2 a3) : STEP z ck cn x (fun kc => sI xs Ln ((J x) + (J 1)) fun v259 => (ck ≤ 600000 ∧ cn ≤ 7302250) ∧ PX10_shelve (ad z 0) v259 (lay z g C) fun r260 M261 => sI xs Ln ((J x) + (J 1)) fun v262 => (ck ≤ 600000 ∧ cn ≤ 7302250) ∧ PX11_shelve (ad z 104) v262 M261 fun r263 M264 => xbr (r260 = r263) ( kc (M264, ck, cn, ((J x) + (J 4)))) ( False)) := by
  obtain ⟨s1, s2, s3, r1, r2, r3, c0, c1, nx⟩ := hs
  obtain ⟨r, C1, C2, A2, e1, e2, h2⟩ := op_shelve (z := z) (g := g) h r1
  exact ⟨C2, g, nb, A2, ck, cn, h2, hz, by omega, by omega, fun kc => by
    simp only [s1, s2, s3, c0, c1, true_and, e1, e2, eq_self, xbr_true, nx]⟩
theorem st_keep (h : Inv C nb A) (hz : z + 125 ≤ g.2.2) (hs : SCR xs Ln ck cn x a1 a2 a3) : STEP z ck cn x (fun kc => sI xs Ln ((J x) + (J 1)) fun v267 => (ck ≤ 600000 ∧ cn ≤ 7302250) ∧ PX10_keep (ad z 0) v267 (lay z g C) fun r268 M269 => sI xs Ln ((J x) + (J 1)) fun v270 => (ck ≤ 600000 ∧ cn ≤ 7302250) ∧ PX11_keep (ad z 104) v270 M269 fun r271 M272 => xbr (r268 = r271) ( kc (M272, ck, cn, ((J x) + (J 4)))) ( False)) := by
  obtain ⟨s1, s2, s3, r1, r2, r3, c0, c1, nx⟩ := hs
  obtain ⟨r, C1, C2, e1, e2, h2⟩ := op_keep (z := z) (g := g) h r1
  exact ⟨C2, g, nb, A, ck, cn, h2, hz, by omega, by omega, fun kc => by
    simp only [s1, s2, s3, c0, c1, true_and, e1, e2, eq_self, xbr_true, nx]⟩
theorem st_goBack (h : Inv C nb A) (hz : z + 125 ≤ g.2.2) (hs : SCR xs Ln ck cn x a1 a2 a3) : STEP z ck cn x (fun kc => sI xs Ln ((J x) + (J 1)) fun v275 => (ck ≤ 600000 ∧ cn ≤ 7302250) ∧ PX10_goBack (ad z 0) v275 (lay z g C) fun r276 M277 => sI xs Ln ((J x) + (J 1)) fun v278 => (ck ≤ 600000 ∧ cn ≤ 7302250) ∧ PX11_goBack (ad z 104) v278 M277 fun r279 M280 => xbr (r276 = r279) ( kc (M280, ck, cn, ((J x) + (J 4)))) ( False)) := by
  obtain ⟨s1, s2, s3, r1, r2, r3, c0, c1, nx⟩ := hs
  obtain ⟨r, C1, C2, A2, e1, e2, h2⟩ := op_goBack (z := z) (g := g) h r1
  exact ⟨C2, g, nb, A2, ck, cn, h2, hz, by omega, by omega, fun kc => by
    simp only [s1, s2, s3, c0, c1, true_and, e1, e2, eq_self, xbr_true, nx]⟩
theorem law_step {w : Int32} (h : Inv C nb A) (hz : z + 125 ≤ g.2.2) (hs : SCR xs Ln ck cn x a1 a2 a3) (s0 : ∀ K, sI xs Ln (J x) K = K w) (hx : ¬ (Int32.ofNat Ln - J 4 < J x)) : STEP z ck cn x (fun kc => CL_law_18 xs Ln b K (ad z 0) (ad z 104) kc (lay z g C) ck cn (J x)) := by
  unfold CL_law_18
  simp only [xbr_neg hx, s0, ex_eq]
  refine STEP.br (st_feed h hz hs) ?_
  refine STEP.br (st_books h hz hs) ?_
  refine STEP.br (st_fault h hz hs) ?_
  refine STEP.br (st_book h hz hs) ?_
  refine STEP.br (st_mark h hz hs) ?_
  refine STEP.br (st_ahead h hz hs) ?_
  refine STEP.br (st_order h hz hs) ?_
  refine STEP.br (st_count h hz hs) ?_
  refine STEP.br (st_width h hz hs) ?_
  refine STEP.br (st_shelf h hz hs) ?_
  refine STEP.br (st_room h hz hs) ?_
  refine STEP.br (st_set h hz hs) ?_
  refine STEP.br (st_put h hz hs) ?_
  refine STEP.br (st_take h hz hs) ?_
  refine STEP.br (st_wrong h hz hs) ?_
  refine STEP.br (st_tidy h hz hs) ?_
  refine STEP.br (st_mend h hz hs) ?_
  refine STEP.br (st_guess h hz hs) ?_
  refine STEP.br (st_lay h hz hs) ?_
  refine STEP.br (st_make h hz hs) ?_
  refine STEP.br (st_guide h hz hs) ?_
  refine STEP.br (st_list h hz hs) ?_
  refine STEP.br (st_stock h hz hs) ?_
  refine STEP.br (st_habit h hz hs) ?_
  refine STEP.br (st_likely h hz hs) ?_
  refine STEP.br (st_search h hz hs) ?_
  refine STEP.br (st_seed h hz hs) ?_
  refine STEP.br (st_shelve h hz hs) ?_
  refine STEP.br (st_keep h hz hs) ?_
  refine STEP.br (st_goBack h hz hs) ?_
  obtain ⟨s1, s2, s3, r1, r2, r3, c0, c1, nx⟩ := hs
  exact ⟨C, g, nb, A, ck, cn, h, hz, by omega, by omega, fun kc => by rw [nx]⟩
end STE
