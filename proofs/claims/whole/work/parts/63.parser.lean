/-! READING A TEXT: the parser in memory, a draft, the text's bytes -/
section PSR
variable {z q d : Nat} {g G : Mem} {C C' : Nat → Nat → Int} {at0 kd0 pl vl bf : Int}
theorem lay_oty (h : z + 125 ≤ q) : (lay z G C).1 q = G.1 q := if_neg (by omega)
theorem lay_oval (h : z + 125 ≤ q) {k : Nat} : (lay z G C).2.1 q k = G.2.1 q k := if_neg (by omega)
theorem lay_oset (h : z + 125 ≤ q) {k : Nat} {v : Value} : xset (lay z G C) q k v = lay z (xset G q k v) C := by
  unfold xset lay
  refine Prod.ext rfl (Prod.ext ?_ rfl)
  funext b j
  show (if b = q ∧ j = k then v else (if z ≤ b ∧ b < z + 125 then (match rf (b - z) j with | some r => Value.ref (ad z r) | none => if nl (b - z) j then .null else .int (J (C (b - z) j))) else G.2.1 b j)) = (if z ≤ b ∧ b < z + 125 then (match rf (b - z) j with | some r => Value.ref (ad z r) | none => if nl (b - z) j then .null else .int (J (C (b - z) j))) else (if b = q ∧ j = k then v else G.2.1 b j))
  by_cases c : z ≤ b ∧ b < z + 125
  · rw [if_neg (by omega), if_pos c, if_pos c]
  · rw [if_neg c, if_neg c]
theorem lay_onew (h : z + 125 ≤ G.2.2) {t n : Nat} {dv : Nat → Value} : xnew (lay z G C) t n dv = lay z (xnew G t n dv) C := by
  unfold xnew lay
  refine Prod.ext ?_ (Prod.ext ?_ rfl)
  · funext b
    show (if b = G.2.2 then (t, n) else (if z ≤ b ∧ b < z + 125 then kd (b - z) else G.1 b)) = (if z ≤ b ∧ b < z + 125 then kd (b - z) else (if b = G.2.2 then (t, n) else G.1 b))
    by_cases c : z ≤ b ∧ b < z + 125
    · rw [if_neg (by omega), if_pos c, if_pos c]
    · rw [if_neg c, if_neg c]
  · funext b j
    show (if b = G.2.2 then dv j else (if z ≤ b ∧ b < z + 125 then (match rf (b - z) j with | some r => Value.ref (ad z r) | none => if nl (b - z) j then .null else .int (J (C (b - z) j))) else G.2.1 b j)) = (if z ≤ b ∧ b < z + 125 then (match rf (b - z) j with | some r => Value.ref (ad z r) | none => if nl (b - z) j then .null else .int (J (C (b - z) j))) else (if b = G.2.2 then dv j else G.2.1 b j))
    by_cases c : z ≤ b ∧ b < z + 125
    · rw [if_neg (by omega), if_pos c, if_pos c]
    · rw [if_neg c, if_neg c]
/-- the parser at q: what it tells, and its ints -/
def prM (g : Mem) (z q d : Nat) (at0 kd0 pl vl bf : Int) : Mem := (fun a => if a = q then (6, 8) else g.1 a, fun a k => if a = q then (if k = 0 then .ref (ad z 1) else if k = 1 then .ref (ad z 3) else if k = 2 then .ref (ad z d) else .int (J (if k = 3 then at0 else if k = 4 then kd0 else if k = 5 then pl else if k = 6 then vl else if k = 7 then bf else 0))) else g.2.1 a k, q + 1)
theorem pr_ty : (prM g z q d at0 kd0 pl vl bf).1 q = (6, 8) := if_pos rfl
theorem pr_val {k : Nat} : (prM g z q d at0 kd0 pl vl bf).2.1 q k = (if k = 0 then Value.ref (ad z 1) else if k = 1 then .ref (ad z 3) else if k = 2 then .ref (ad z d) else .int (J (if k = 3 then at0 else if k = 4 then kd0 else if k = 5 then pl else if k = 6 then vl else if k = 7 then bf else 0))) := if_pos rfl
theorem p_T {K : Prop} (h : z + 125 ≤ q) : tS (lay z (prM g z q d at0 kd0 pl vl bf) C) 6 q K = K := by
  unfold tS
  rw [lay_oty h, pr_ty]
  simp
theorem p_r {K : Nat → Prop} (h : z + 125 ≤ q) {k r : Nat} (e : (prM g z q d at0 kd0 pl vl bf).2.1 q k = .ref (ad z r)) : gR (lay z (prM g z q d at0 kd0 pl vl bf) C) 6 q k K = K (ad z r) := by
  unfold gR
  rw [lay_oty h, pr_ty, lay_oval h, e]
  apply propext
  constructor
  · rintro ⟨-, v, e, h⟩
    cases e; exact h
  · exact fun h => ⟨rfl, _, rfl, h⟩
theorem p_i {K : Int32 → Prop} (h : z + 125 ≤ q) {k : Nat} {v : Int} (e : (prM g z q d at0 kd0 pl vl bf).2.1 q k = .int (J v)) : gI (lay z (prM g z q d at0 kd0 pl vl bf) C) 6 q k K = K (J v) := by
  unfold gI
  rw [lay_oty h, pr_ty, lay_oval h, e]
  apply propext
  constructor
  · rintro ⟨-, v, e, h⟩
    cases e; exact h
  · exact fun h => ⟨rfl, _, rfl, h⟩
theorem p_r0 {K : Nat → Prop} (h : z + 125 ≤ q) : gR (lay z (prM g z q d at0 kd0 pl vl bf) C) 6 q 0 K = K (ad z 1) := p_r h pr_val
theorem p_r1 {K : Nat → Prop} (h : z + 125 ≤ q) : gR (lay z (prM g z q d at0 kd0 pl vl bf) C) 6 q 1 K = K (ad z 3) := p_r h pr_val
theorem p_r2 {K : Nat → Prop} (h : z + 125 ≤ q) : gR (lay z (prM g z q d at0 kd0 pl vl bf) C) 6 q 2 K = K (ad z d) := p_r h pr_val
theorem p_i3 {K : Int32 → Prop} (h : z + 125 ≤ q) : gI (lay z (prM g z q d at0 kd0 pl vl bf) C) 6 q 3 K = K (J at0) := p_i h pr_val
theorem p_i4 {K : Int32 → Prop} (h : z + 125 ≤ q) : gI (lay z (prM g z q d at0 kd0 pl vl bf) C) 6 q 4 K = K (J kd0) := p_i h pr_val
theorem p_i5 {K : Int32 → Prop} (h : z + 125 ≤ q) : gI (lay z (prM g z q d at0 kd0 pl vl bf) C) 6 q 5 K = K (J pl) := p_i h pr_val
theorem p_i6 {K : Int32 → Prop} (h : z + 125 ≤ q) : gI (lay z (prM g z q d at0 kd0 pl vl bf) C) 6 q 6 K = K (J vl) := p_i h pr_val
theorem p_i7 {K : Int32 → Prop} (h : z + 125 ≤ q) : gI (lay z (prM g z q d at0 kd0 pl vl bf) C) 6 q 7 K = K (J bf) := p_i h pr_val
theorem p_p {K : Mem → Prop} (h : z + 125 ≤ q) {k : Nat} {v : Value} {G : Mem} (e : xset (prM g z q d at0 kd0 pl vl bf) q k v = G) : pF (lay z (prM g z q d at0 kd0 pl vl bf) C) 6 q k v K = K (lay z G C) := by
  unfold pF
  rw [lay_oty h, pr_ty, lay_oset h, e, all_eq]
  simp
theorem xset_pr {G H : Mem} {q k : Nat} {v : Value} (h1 : H.1 = G.1) (h2 : ∀ a, a ≠ q → H.2.1 a = G.2.1 a) (h3 : ∀ j, H.2.1 q j = if j = k then v else G.2.1 q j) (h4 : H.2.2 = G.2.2) : xset G q k v = H := by
  unfold xset
  refine Prod.ext h1.symm (Prod.ext ?_ h4.symm)
  funext b j
  show (if b = q ∧ j = k then v else G.2.1 b j) = H.2.1 b j
  by_cases c : b = q
  · subst c
    rw [h3]
    by_cases c2 : j = k
    · rw [if_pos ⟨rfl, c2⟩, if_pos c2]
    · rw [if_neg (fun q => c2 q.2), if_neg c2]
  · rw [if_neg (fun q => c q.1), h2 b c]
theorem pr_x2 {d' : Nat} : xset (prM g z q d at0 kd0 pl vl bf) q 2 (.ref (ad z d')) = prM g z q d' at0 kd0 pl vl bf := by
  refine xset_pr rfl (fun a ha => ?_) (fun j => ?_) rfl
  · funext j; show (if a = q then _ else _) = (if a = q then _ else _); rw [if_neg ha, if_neg ha]
  · rw [pr_val, pr_val]
    by_cases c : j = 2
    · subst c; rfl
    · simp only [if_neg c]
theorem pr_x3 {v : Int} : xset (prM g z q d at0 kd0 pl vl bf) q 3 (.int (J v)) = prM g z q d v kd0 pl vl bf := by
  refine xset_pr rfl (fun a ha => ?_) (fun j => ?_) rfl
  · funext j; show (if a = q then _ else _) = (if a = q then _ else _); rw [if_neg ha, if_neg ha]
  · rw [pr_val, pr_val]
    by_cases c : j = 3
    · subst c; rfl
    · simp only [if_neg c]
theorem pr_x4 {v : Int} : xset (prM g z q d at0 kd0 pl vl bf) q 4 (.int (J v)) = prM g z q d at0 v pl vl bf := by
  refine xset_pr rfl (fun a ha => ?_) (fun j => ?_) rfl
  · funext j; show (if a = q then _ else _) = (if a = q then _ else _); rw [if_neg ha, if_neg ha]
  · rw [pr_val, pr_val]
    by_cases c : j = 4
    · subst c; rfl
    · simp only [if_neg c]
theorem pr_x5 {v : Int} : xset (prM g z q d at0 kd0 pl vl bf) q 5 (.int (J v)) = prM g z q d at0 kd0 v vl bf := by
  refine xset_pr rfl (fun a ha => ?_) (fun j => ?_) rfl
  · funext j; show (if a = q then _ else _) = (if a = q then _ else _); rw [if_neg ha, if_neg ha]
  · rw [pr_val, pr_val]
    by_cases c : j = 5
    · subst c; rfl
    · simp only [if_neg c]
theorem pr_x6 {v : Int} : xset (prM g z q d at0 kd0 pl vl bf) q 6 (.int (J v)) = prM g z q d at0 kd0 pl v bf := by
  refine xset_pr rfl (fun a ha => ?_) (fun j => ?_) rfl
  · funext j; show (if a = q then _ else _) = (if a = q then _ else _); rw [if_neg ha, if_neg ha]
  · rw [pr_val, pr_val]
    by_cases c : j = 6
    · subst c; rfl
    · simp only [if_neg c]
theorem pr_x7 {v : Int} : xset (prM g z q d at0 kd0 pl vl bf) q 7 (.int (J v)) = prM g z q d at0 kd0 pl vl v := by
  refine xset_pr rfl (fun a ha => ?_) (fun j => ?_) rfl
  · funext j; show (if a = q then _ else _) = (if a = q then _ else _); rw [if_neg ha, if_neg ha]
  · rw [pr_val, pr_val]
    by_cases c : j = 7
    · subst c; rfl
    · simp only [if_neg c]
theorem nO_lay (h : z + 125 ≤ g.2.2) {t n : Nat} {ty : Nat → FieldType} {K : Nat → Mem → Prop} : nO (lay z g C) t n ty K = K g.2.2 (lay z (xnew g t n (fun j => defaultValue (ty j))) C) := by
  unfold nO
  rw [lay_onew h]
  exact propext ⟨fun q => q _ _ rfl rfl, fun q a b e1 e2 => by rw [e1, e2]; exact q⟩
theorem pF_out (h : z + 125 ≤ q) (e : (G.1 q).1 = 6) {k : Nat} {v : Value} {K : Mem → Prop} : pF (lay z G C) 6 q k v K = K (lay z (xset G q k v) C) := by
  unfold pF
  rw [lay_oty h, e, lay_oset h, all_eq]
  simp
theorem s_draft {K : Nat → Prop} {m : Nat} (hm : C 3 3 = m) (h24 : m ≤ 24) : PX2_draft (ad z 3) (lay z g C) K = K (ad z (bkO m)) := by
  unfold PX2_draft
  simp (disch := omega) only [J_add, J_sub, J_mul, J_lt, J_le, J_eq, xbr_true, xbr_false, xbr_pos, xbr_neg, Int.toNat_natCast, all_eq, ex_eq, t_0, q_0_0, q_0_1, q_0_2, q_0_3, q_0_4, q_0_5, q_0_6, q_0_7, q_0_8, q_0_9, i_0_10, p_0_10, i_0_11, p_0_11, i_0_12, p_0_12, t_1, q_1_0, t_3, q_3_0, q_3_1, i_3_2, p_3_2, i_3_3, p_3_3, t_80, q_80_0, t_88, q_88_0, t_90, q_90_0, t_92, q_92_0, q_92_1, q_92_2, i_92_3, p_92_3, i_92_4, p_92_4, t_96, q_96_0, i_96_1, p_96_1, i_96_2, p_96_2, i_96_3, p_96_3, t_100, q_100_0, i_100_1, p_100_1, i_100_2, p_100_2, i_100_3, p_100_3, t_104, q_104_1, q_104_2, q_104_3, q_104_4, q_104_5, q_104_6, q_104_8, q_104_9, q_104_11, q_104_12, q_104_18, q_104_21, q_104_22, q_104_23, q_104_24, q_104_26, q_104_27, q_104_28, q_104_30, q_104_31, i_104_0, p_104_0, i_104_7, p_104_7, i_104_10, p_104_10, i_104_13, p_104_13, i_104_14, p_104_14, i_104_15, p_104_15, i_104_16, p_104_16, i_104_17, p_104_17, i_104_19, p_104_19, i_104_20, p_104_20, i_104_25, p_104_25, i_104_29, p_104_29, a_2, w_2, a_81, w_81, a_89, w_89, a_91, w_91, a_93, w_93, a_94, w_94, a_95, w_95, a_105, w_105, a_106, w_106, a_107, w_107, a_108, w_108, a_109, w_109, a_110, w_110, a_111, w_111, a_112, w_112, a_113, w_113, a_114, w_114, a_115, w_115, a_116, w_116, a_117, w_117, a_118, w_118, a_119, w_119, a_120, w_120, a_121, w_121, a_122, w_122, a_123, w_123, a_124, w_124, gI_lay (t := 3) (o := 3) (k := 3) rfl, hm, s_of]
theorem s_pinit (h : z + 125 ≤ g.2.2) {m : Nat} (hm : C 3 3 = m) (h24 : m ≤ 24) {K : Mem → Prop} : PX5_init g.2.2 (ad z 1) (ad z 3) (lay z (xnew g 6 8 (fun j => defaultValue (tyX5 j))) C) K = K (lay z (prM g z g.2.2 (bkO m) 0 0 (-1) 0 0) C) := by
  have e0 : ((xnew g 6 8 (fun j => defaultValue (tyX5 j))).1 g.2.2).1 = 6 := by simp [xnew]
  have eT : ∀ (G : Mem), (G.1 g.2.2).1 = 6 → ∀ K : Prop, tS (lay z G C) 6 g.2.2 K = K := fun G hG K => by
    unfold tS
    rw [lay_oty h, hG]
    simp
  have ex : ∀ (G : Mem) k v, (G.1 g.2.2).1 = 6 → ((xset G g.2.2 k v).1 g.2.2).1 = 6 := fun G k v hG => hG
  have fin : xset (xset (xset (xset (xset (xset (xset (xset (xnew g 6 8 (fun j => defaultValue (tyX5 j))) g.2.2 0 (.ref (ad z 1))) g.2.2 1 (.ref (ad z 3))) g.2.2 2 (.ref (ad z (bkO m)))) g.2.2 3 (.int (J 0))) g.2.2 4 (.int (J 0))) g.2.2 5 (.int (J (-1)))) g.2.2 6 (.int (J 0))) g.2.2 7 (.int (J 0)) = prM g z g.2.2 (bkO m) 0 0 (-1) 0 0 := by
    refine Prod.ext ?_ (Prod.ext ?_ rfl)
    · funext b; rfl
    · funext b j
      unfold xset xnew prM
      by_cases c : b = g.2.2
      · subst c
        simp only [true_and, if_true]
        rcases j with _ | _ | _ | _ | _ | _ | _ | _ | j
        · rfl
        · rfl
        · rfl
        · rfl
        · rfl
        · rfl
        · rfl
        · rfl
        · simp [tyX5, defaultValue]
          rfl
      · simp [c]
  unfold PX5_init
  rw [eT _ e0, pF_out h e0, pF_out h (ex _ _ _ e0), s_draft hm h24, pF_out h (ex _ _ _ (ex _ _ _ e0)), pF_out h (ex _ _ _ (ex _ _ _ (ex _ _ _ e0))), pF_out h (ex _ _ _ (ex _ _ _ (ex _ _ _ (ex _ _ _ e0)))), pF_out h (ex _ _ _ (ex _ _ _ (ex _ _ _ (ex _ _ _ (ex _ _ _ e0))))), pF_out h (ex _ _ _ (ex _ _ _ (ex _ _ _ (ex _ _ _ (ex _ _ _ (ex _ _ _ e0)))))), pF_out h (ex _ _ _ (ex _ _ _ (ex _ _ _ (ex _ _ _ (ex _ _ _ (ex _ _ _ (ex _ _ _ e0))))))), fin]
end PSR
/-- the text: how many bytes, which -/
def TxC (C : Nat → Nat → Int) (n : Nat) (tx : Nat → Int) : Prop := C 1 1 = n ∧ n ≤ 600 ∧ (∀ p, p < n → C 2 p = tx p ∧ 0 ≤ tx p ∧ tx p ≤ 255) ∧ ∀ p, n ≤ p → tx p = -1
theorem TxC.b {C : Nat → Nat → Int} {n : Nat} {tx : Nat → Int} (h : TxC C n tx) (p : Nat) : -1 ≤ tx p ∧ tx p ≤ 255 ∧ (0 ≤ tx p → p < n) := by
  rcases Nat.lt_or_ge p n with c | c
  · have := h.2.2.1 p c; exact ⟨by omega, by omega, fun _ => c⟩
  · have := h.2.2.2 p c; exact ⟨by omega, by omega, fun q => by omega⟩
/-- the draft of the m-th book: its fields, its bytes -/
def dC (C : Nat → Nat → Int) (m : Nat) (v : Nat → Int) (sg : List Int) : Nat → Nat → Int := fun a j => if a = 8 + 3 * m ∧ 1 ≤ j ∧ j < 12 then v j else if a = 9 + 3 * m ∧ j = 1 then (sg.length : Int) else if a = 10 + 3 * m ∧ j < sg.length then sg.getD j 0 else C a j
def vup (v : Nat → Int) (k : Nat) (x : Int) : Nat → Int := fun j => if j = k then x else v j
def vz : Nat → Int := fun j => if j = 10 then -1 else if j = 11 then 2 else 0
section DRF
variable {z q n m : Nat} {g : Mem} {C C' : Nat → Nat → Int} {v : Nat → Int} {sg : List Int} {tx : Nat → Int} {kd0 pl vl bf : Int}
theorem dC_ne {a : Nat} (h : a ≠ 8 + 3 * m ∧ a ≠ 9 + 3 * m ∧ a ≠ 10 + 3 * m) : dC C m v sg a = C a := by
  funext j; unfold dC; rw [if_neg (fun q => h.1 q.1), if_neg (fun q => h.2.1 q.1), if_neg (fun q => h.2.2 q.1)]
theorem dC_f {k : Nat} (h1 : 1 ≤ k) (h2 : k < 12) : dC C m v sg (8 + 3 * m) k = v k := by unfold dC; rw [if_pos ⟨rfl, h1, h2⟩]
theorem dC_l : dC C m v sg (9 + 3 * m) 1 = sg.length := by unfold dC; rw [if_neg (by omega), if_pos ⟨rfl, rfl⟩]
theorem dC_up {k : Nat} {x : Int} (h1 : 1 ≤ k) (h2 : k < 12) : up (dC C m v sg) (8 + 3 * m) k x = dC C m (vup v k x) sg := by
  funext a j
  unfold up dC vup
  by_cases c : a = 8 + 3 * m ∧ j = k
  · rw [if_pos c, if_pos (by omega), if_pos c.2]
  · rw [if_neg c]
    by_cases c2 : a = 8 + 3 * m ∧ 1 ≤ j ∧ j < 12
    · rw [if_pos c2, if_pos c2, if_neg (by omega)]
    · rw [if_neg c2, if_neg c2]
theorem dC_app {x : Int} : up (up (dC C m v sg) (10 + 3 * m) sg.length x) (9 + 3 * m) 1 ((sg.length : Int) + 1) = dC C m v (sg ++ [x]) := by
  funext a j
  simp only [up, dC, getD_app1, List.length_append, List.length_cons, List.length_nil]
  by_cases c1 : a = 9 + 3 * m ∧ j = 1
  · rw [if_pos c1, if_neg (by omega), if_pos c1]; omega
  · simp only [if_neg c1]
    by_cases c2 : a = 10 + 3 * m ∧ j = sg.length
    · rw [if_pos c2, if_neg (by omega), if_pos (by omega), if_neg (by omega), if_pos c2.2]
    · rw [if_neg c2]
      by_cases c3 : a = 8 + 3 * m ∧ 1 ≤ j ∧ j < 12
      · rw [if_pos c3, if_pos c3]
      · rw [if_neg c3, if_neg c3]
        by_cases c4 : a = 10 + 3 * m ∧ j < sg.length
        · rw [if_pos c4, if_pos (by omega), if_pos c4.2]
        · rw [if_neg c4, if_neg (by omega)]
theorem bT (hm : m < 24) : okT 1 (8 + 3 * m) = true := book_T (Or.inr ⟨m, hm, rfl⟩)
theorem bF (hm : m < 24) {k : Nat} (h1 : 1 ≤ k) (h2 : k < 12) : okI 1 (8 + 3 * m) k = true := book_f (Or.inr ⟨m, hm, rfl⟩) h2 h1
theorem TxC.fr (h : TxC C n tx) (e1 : C' 1 = C 1) (e2 : C' 2 = C 2) : TxC C' n tx := by
  unfold TxC at *
  rw [e1, e2]; exact h
theorem TxC.d (h : TxC C n tx) : TxC (dC C m v sg) n tx := h.fr (dC_ne (by omega)) (dC_ne (by omega))
theorem s_pnext {d : Nat} {K : Int32 → Prop} (hq : z + 125 ≤ q) (h : TxC C n tx) {p : Nat} (hp : p ≤ 10000) : PX5_next q (lay z (prM g z q d (p : Nat) kd0 pl vl bf) C) K = K (J (tx p)) := by
  have e1 := h.1
  have hn := h.2.1
  unfold PX5_next
  simp (disch := omega) only [J_add, J_sub, J_mul, J_lt, J_le, J_eq, xbr_true, xbr_false, xbr_pos, xbr_neg, Int.toNat_natCast, all_eq, ex_eq, p_T hq, p_r0 hq, p_i3 hq, s_bget text_B, h.1]
  rcases Nat.lt_or_ge p n with c | c
  · rw [if_pos (by omega), (h.2.2.1 p c).1]
  · rw [if_neg (by omega), h.2.2.2 p c]
theorem s_isLetter {M : Mem} {K : Int32 → Prop} {x : Int} (hx : -1 ≤ x ∧ x ≤ 255) : PX5_isLetter (J x) M K = K (J (if 97 ≤ x ∧ x ≤ 122 then 1 else 0)) := by
  unfold PX5_isLetter
  by_cases c1 : x < 97
  · simp (disch := omega) only [J_add, J_sub, J_mul, J_lt, J_le, J_eq, xbr_true, xbr_false, xbr_pos, xbr_neg, Int.toNat_natCast, all_eq, ex_eq, isB0, true_and]
    rw [if_neg (by omega)]
  · by_cases c2 : 122 < x
    · simp (disch := omega) only [J_add, J_sub, J_mul, J_lt, J_le, J_eq, xbr_true, xbr_false, xbr_pos, xbr_neg, Int.toNat_natCast, all_eq, ex_eq, isB0, true_and]
      rw [if_neg (by omega)]
    · simp (disch := omega) only [J_add, J_sub, J_mul, J_lt, J_le, J_eq, xbr_true, xbr_false, xbr_pos, xbr_neg, Int.toNat_natCast, all_eq, ex_eq, isB1, true_and]
      rw [if_pos (by omega)]
theorem s_isFigure {M : Mem} {K : Int32 → Prop} {x : Int} (hx : -1 ≤ x ∧ x ≤ 255) : PX5_isFigure (J x) M K = K (J (if 48 ≤ x ∧ x ≤ 57 then 1 else 0)) := by
  unfold PX5_isFigure
  by_cases c1 : x < 48
  · simp (disch := omega) only [J_add, J_sub, J_mul, J_lt, J_le, J_eq, xbr_true, xbr_false, xbr_pos, xbr_neg, Int.toNat_natCast, all_eq, ex_eq, isB0, true_and]
    rw [if_neg (by omega)]
  · by_cases c2 : 57 < x
    · simp (disch := omega) only [J_add, J_sub, J_mul, J_lt, J_le, J_eq, xbr_true, xbr_false, xbr_pos, xbr_neg, Int.toNat_natCast, all_eq, ex_eq, isB0, true_and]
      rw [if_neg (by omega)]
    · simp (disch := omega) only [J_add, J_sub, J_mul, J_lt, J_le, J_eq, xbr_true, xbr_false, xbr_pos, xbr_neg, Int.toNat_natCast, all_eq, ex_eq, isB1, true_and]
      rw [if_pos (by omega)]
theorem s_fail {d : Nat} {K : Int32 → Mem → Prop} (hq : z + 125 ≤ q) {x y a : Int} : PX5_fail q (J x) (J y) (lay z (prM g z q d a kd0 pl vl bf) C) K = K (J 0) (lay z (prM g z q d a x y vl bf) C) := by
  unfold PX5_fail
  simp (disch := omega) only [J_add, J_sub, J_mul, J_lt, J_le, J_eq, xbr_true, xbr_false, xbr_pos, xbr_neg, Int.toNat_natCast, all_eq, ex_eq, p_T hq, p_p hq pr_x4, p_p hq pr_x5, isB0, true_and]
theorem s_draftApp {K : Mem → Prop} (hm : m < 24) (hl : sg.length < 23) {x : Int} : PX1_append (ad z (9 + 3 * m)) (J x) (lay z g (dC C m v sg)) K = K (lay z g (dC C m v (sg ++ [x]))) := by
  rw [s_bapp (bB hm) (by rw [dC_l]; omega), dC_l, Int.toNat_natCast, show 9 + 3 * m + 1 = 10 + 3 * m by omega, dC_app]
theorem s_takeSign {K : Int32 → Mem → Prop} (hq : z + 125 ≤ q) (h : TxC C n tx) (hm : m < 24) (hl : sg.length < 23) {p : Nat} (hp : p < n) : PX5_takeSign q (lay z (prM g z q (8 + 3 * m) (p : Nat) kd0 pl vl bf) (dC C m v sg)) K = K (J (tx p)) (lay z (prM g z q (8 + 3 * m) (p + 1 : Nat) kd0 pl vl bf) (dC C m v (sg ++ [tx p]))) := by
  have hd := h.d (m := m) (v := v) (sg := sg)
  have hn := h.2.1
  have e1 := hd.1
  have ep : (p : Int) + 1 = ((p + 1 : Nat) : Int) := by omega
  unfold PX5_takeSign
  simp (disch := omega) only [J_add, J_sub, J_mul, J_lt, J_le, J_eq, xbr_true, xbr_false, xbr_pos, xbr_neg, Int.toNat_natCast, all_eq, ex_eq, p_T hq, p_r0 hq, p_i3 hq, s_bget text_B, hd.1, if_pos (show 0 ≤ (p : Int) ∧ (p : Int) < (n : Int) by omega), (hd.2.2.1 p hp).1, p_r2 hq, gR_lay (bS hm), s_draftApp hm hl, p_p hq pr_x3, ep]
/-- a draft's fields are small -/
def VOk (v : Nat → Int) : Prop := (0 ≤ v 1 ∧ v 1 ≤ 26) ∧ (0 ≤ v 2 ∧ v 2 ≤ 26) ∧ (0 ≤ v 7 ∧ v 7 ≤ 26) ∧ (0 ≤ v 3 ∧ v 3 ≤ 9999) ∧ (0 ≤ v 4 ∧ v 4 ≤ 50000) ∧ (0 ≤ v 5 ∧ v 5 ≤ 9999) ∧ (0 ≤ v 6 ∧ v 6 ≤ 50000) ∧ (0 ≤ v 8 ∧ v 8 ≤ 9999) ∧ (0 ≤ v 9 ∧ v 9 ≤ 50000) ∧ (-1 ≤ v 10 ∧ v 10 ≤ 2999) ∧ (0 ≤ v 11 ∧ v 11 ≤ 9)
theorem BooksOk.d (h : BooksOk C) (hv : VOk v) : BooksOk (dC C m v sg) := by
  intro o ho
  obtain ⟨i, hi, rfl⟩ := isBook_i ho
  by_cases c : 5 + 3 * i = 8 + 3 * m
  · rw [c]
    unfold BookOk
    unfold VOk at hv
    simp only [dC_f (C := C) (m := m) (v := v) (sg := sg) (show 1 ≤ 1 by omega) (by omega), dC_f (C := C) (m := m) (v := v) (sg := sg) (show 1 ≤ 2 by omega) (by omega), dC_f (C := C) (m := m) (v := v) (sg := sg) (show 1 ≤ 3 by omega) (by omega), dC_f (C := C) (m := m) (v := v) (sg := sg) (show 1 ≤ 4 by omega) (by omega), dC_f (C := C) (m := m) (v := v) (sg := sg) (show 1 ≤ 5 by omega) (by omega), dC_f (C := C) (m := m) (v := v) (sg := sg) (show 1 ≤ 6 by omega) (by omega), dC_f (C := C) (m := m) (v := v) (sg := sg) (show 1 ≤ 7 by omega) (by omega), dC_f (C := C) (m := m) (v := v) (sg := sg) (show 1 ≤ 8 by omega) (by omega), dC_f (C := C) (m := m) (v := v) (sg := sg) (show 1 ≤ 9 by omega) (by omega), dC_f (C := C) (m := m) (v := v) (sg := sg) (show 1 ≤ 10 by omega) (by omega), dC_f (C := C) (m := m) (v := v) (sg := sg) (show 1 ≤ 11 by omega) (by omega)]
    exact hv
  · have := h _ ho
    unfold BookOk at this ⊢
    rw [dC_ne (by omega)]
    exact this
theorem s_bookClear {K : Mem → Prop} (hm : m < 24) : PX0_clear (ad z (8 + 3 * m)) (lay z g C) K = K (lay z g (dC C m vz [])) := by
  have fin : up (up (up (up (up (up (up (up (up (up (up (up C (9 + 3 * m) 1 0) (8 + 3 * m) 1 0) (8 + 3 * m) 2 0) (8 + 3 * m) 3 0) (8 + 3 * m) 4 0) (8 + 3 * m) 5 0) (8 + 3 * m) 6 0) (8 + 3 * m) 7 0) (8 + 3 * m) 8 0) (8 + 3 * m) 9 0) (8 + 3 * m) 10 (-1)) (8 + 3 * m) 11 2 = dC C m vz [] := by
    funext a j
    by_cases c : a = 8 + 3 * m
    · subst c
      rcases j with _ | _ | _ | _ | _ | _ | _ | _ | _ | _ | _ | _ | j
      all_goals first | (simp [up, dC, vz]; done) | (simp [up, dC, vz]; intro q; omega)
    · by_cases c2 : a = 9 + 3 * m
      · subst c2
        simp [up, dC, c]
      · simp [up, dC, c, c2]
  unfold PX0_clear
  simp (disch := omega) only [J_add, J_sub, J_mul, J_lt, J_le, J_eq, xbr_true, xbr_false, xbr_pos, xbr_neg, Int.toNat_natCast, all_eq, ex_eq, tS_lay (bT hm), gR_lay (bS hm), s_bclear (bB hm), pF_lay (bF hm (show 1 ≤ 1 by omega) (by omega)), pF_lay (bF hm (show 1 ≤ 2 by omega) (by omega)), pF_lay (bF hm (show 1 ≤ 3 by omega) (by omega)), pF_lay (bF hm (show 1 ≤ 4 by omega) (by omega)), pF_lay (bF hm (show 1 ≤ 5 by omega) (by omega)), pF_lay (bF hm (show 1 ≤ 6 by omega) (by omega)), pF_lay (bF hm (show 1 ≤ 7 by omega) (by omega)), pF_lay (bF hm (show 1 ≤ 8 by omega) (by omega)), pF_lay (bF hm (show 1 ≤ 9 by omega) (by omega)), pF_lay (bF hm (show 1 ≤ 10 by omega) (by omega)), pF_lay (bF hm (show 1 ≤ 11 by omega) (by omega)), fin]
end DRF
