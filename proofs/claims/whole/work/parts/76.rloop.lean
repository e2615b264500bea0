/-! READING A TEXT: the whole text, by the reference -/
section RLO
variable {z n m p nb : Nat} {g : Mem} {C C' : Nat → Nat → Int} {tx : Nat → Int}
/-- what the reading of books m and on leaves of the rest -/
def FrL (C C' : Nat → Nat → Int) (m : Nat) : Prop := (∀ o, o < 104 ∨ 109 < o → C' o = C o) ∧ (∀ j, j ≠ 14 → j ≠ 15 → j ≠ 16 → j ≠ 17 → C' 104 j = C 104 j) ∧ (∀ b i, b < m → i < 16 → C' 105 (16 * b + i) = C 105 (16 * b + i)) ∧ (∀ a b, 106 ≤ a → a ≤ 109 → b < m → C' a b = C a b)
theorem FrL.ofM (h : FrM C C' m) : FrL C C' m := ⟨h.1, fun j h1 h2 _ h4 => h.2.1 j h1 h2 h4, h.2.2.1, fun a b h1 h2 h3 => h.2.2.2 a b h1 h2 (by omega)⟩
theorem FrL.trans {D : Nat → Nat → Int} {m' : Nat} (h : FrL C C' m) (h2 : FrL C' D m') (hm : m ≤ m') : FrL C D m :=
  ⟨fun o ho => by rw [h2.1 o ho, h.1 o ho], fun j a b c d => by rw [h2.2.1 j a b c d, h.2.1 j a b c d], fun b i hb hi => by rw [h2.2.2.1 b i (by omega) hi, h.2.2.1 b i hb hi], fun a b h3 h4 hb => by rw [h2.2.2.2 a b h3 h4 (by omega), h.2.2.2 a b h3 h4 hb]⟩
theorem FrL.up {j : Nat} {x : Int} (hj : j = 14 ∨ j = 15 ∨ j = 16 ∨ j = 17) : FrL C (up C 104 j x) m :=
  ⟨fun o ho => up_ne (by omega), fun i a b c d => up_nk (by omega), fun b i _ _ => by rw [up_ne (by omega)], fun a b h1 h2 _ => by rw [up_ne (by omega)]⟩
theorem GDig.fr (h : GDig C) (e : C' 105 = C 105) : GDig C' := by
  unfold GDig ptC at *
  rw [e]; exact h
theorem m_loop : ∀ (k p m : Nat) (C : Nat → Nat → Int) (x : Nat) (κ : Nat → Nat → Int) (ps : Nat → Nat), TxM C n tx → GDig C → C 104 16 = m → m ≤ 24 → C 104 15 = (x : Nat) → x ≤ n → p = skp tx n x → n ≤ p + k → (∀ b, b < m → RBk C b) → (∀ b, b < m → keyR C b = κ b) →
    ∃ C' : Nat → Nat → Int, FrL C C' m ∧ GDig C' ∧ C' 104 14 = (if (rnT tx n k p m κ ps).1 = 0 then C 104 14 else ((rnT tx n k p m κ ps).2.1 : Int)) ∧ m ≤ (rnT tx n k p m κ ps).2.2.1 ∧ (rnT tx n k p m κ ps).2.2.1 ≤ 24 ∧ (∀ b, b < m → (rnT tx n k p m κ ps).2.2.2 b = ps b) ∧
      ((rnT tx n k p m κ ps).1 = 0 → C' 104 16 = (rnT tx n k p m κ ps).2.2.1 ∧ ∀ b, m ≤ b → b < (rnT tx n k p m κ ps).2.2.1 → RefAt C' tx n b ((rnT tx n k p m κ ps).2.2.2 b) ∧ RBk C' b) ∧
      ∀ K, lp (BX11_books_20 K (ad z 104)) (lay z g C, J 0) = JX11_books_39 K (lay z g C') (ad z 104) (J ((rnT tx n k p m κ ps).1 : Nat)) := by
  intro k
  induction k with
  | zero =>
    intro p m C x κ ps h hD h16 h24 h15 hx hp hk hR hκ
    have hs := skp_le (tx := tx) hx
    have e : rnT tx n 0 p m κ ps = (0, 0, m, ps) := rfl
    rw [e]
    have bb := h.2.2.2 (skp tx n x) (by omega)
    refine ⟨up C 104 15 (skp tx n x : Nat), FrL.up (by omega), hD.fr (up_ne (by omega)), by rw [if_pos rfl]; exact up_nk (by omega), Nat.le_refl _, h24, fun _ _ => rfl, fun _ => ⟨by rw [up_nk (by omega)]; exact h16, fun b h1 h2 => by have h2' : b < m := h2; omega⟩, fun K => ?_⟩
    refine lp_last fun kc => ?_
    unfold BX11_books_20 CX11_books_20
    simp (disch := omega) only [J_add, J_sub, J_mul, J_lt, J_le, J_eq, xbr_true, xbr_false, xbr_pos, xbr_neg, Int.toNat_natCast, all_eq, ex_eq, t_0, q_0_0, q_0_1, q_0_2, q_0_3, q_0_4, q_0_5, q_0_6, q_0_7, q_0_8, q_0_9, i_0_10, p_0_10, i_0_11, p_0_11, i_0_12, p_0_12, t_1, q_1_0, t_3, q_3_0, q_3_1, i_3_2, p_3_2, i_3_3, p_3_3, t_80, q_80_0, t_88, q_88_0, t_90, q_90_0, t_92, q_92_0, q_92_1, q_92_2, i_92_3, p_92_3, i_92_4, p_92_4, t_96, q_96_0, i_96_1, p_96_1, i_96_2, p_96_2, i_96_3, p_96_3, t_100, q_100_0, i_100_1, p_100_1, i_100_2, p_100_2, i_100_3, p_100_3, t_104, q_104_1, q_104_2, q_104_3, q_104_4, q_104_5, q_104_6, q_104_8, q_104_9, q_104_11, q_104_12, q_104_18, q_104_21, q_104_22, q_104_23, q_104_24, q_104_26, q_104_27, q_104_28, q_104_30, q_104_31, i_104_0, p_104_0, i_104_7, p_104_7, i_104_10, p_104_10, i_104_13, p_104_13, i_104_14, p_104_14, i_104_15, p_104_15, i_104_16, p_104_16, i_104_17, p_104_17, i_104_19, p_104_19, i_104_20, p_104_20, i_104_25, p_104_25, i_104_29, p_104_29, a_2, w_2, a_81, w_81, a_89, w_89, a_91, w_91, a_93, w_93, a_94, w_94, a_95, w_95, a_105, w_105, a_106, w_106, a_107, w_107, a_108, w_108, a_109, w_109, a_110, w_110, a_111, w_111, a_112, w_112, a_113, w_113, a_114, w_114, a_115, w_115, a_116, w_116, a_117, w_117, a_118, w_118, a_119, w_119, a_120, w_120, a_121, w_121, a_122, w_122, a_123, w_123, a_124, w_124, m_here h h15 hx, bb]
    rfl
  | succ k ih =>
    intro p m C x κ ps h hD h16 h24 h15 hx hp hk hR hκ
    have hn := h.2.1
    have hs := skp_le (tx := tx) hx
    by_cases c0 : n ≤ p
    · have e : rnT tx n (k + 1) p m κ ps = (0, 0, m, ps) := if_pos c0
      rw [e]
      have bb := h.2.2.2 (skp tx n x) (by omega)
      refine ⟨up C 104 15 (skp tx n x : Nat), FrL.up (by omega), hD.fr (up_ne (by omega)), by rw [if_pos rfl]; exact up_nk (by omega), Nat.le_refl _, h24, fun _ _ => rfl, fun _ => ⟨by rw [up_nk (by omega)]; exact h16, fun b h1 h2 => by have h2' : b < m := h2; omega⟩, fun K => ?_⟩
      refine lp_last fun kc => ?_
      unfold BX11_books_20 CX11_books_20
      simp (disch := omega) only [J_add, J_sub, J_mul, J_lt, J_le, J_eq, xbr_true, xbr_false, xbr_pos, xbr_neg, Int.toNat_natCast, all_eq, ex_eq, t_0, q_0_0, q_0_1, q_0_2, q_0_3, q_0_4, q_0_5, q_0_6, q_0_7, q_0_8, q_0_9, i_0_10, p_0_10, i_0_11, p_0_11, i_0_12, p_0_12, t_1, q_1_0, t_3, q_3_0, q_3_1, i_3_2, p_3_2, i_3_3, p_3_3, t_80, q_80_0, t_88, q_88_0, t_90, q_90_0, t_92, q_92_0, q_92_1, q_92_2, i_92_3, p_92_3, i_92_4, p_92_4, t_96, q_96_0, i_96_1, p_96_1, i_96_2, p_96_2, i_96_3, p_96_3, t_100, q_100_0, i_100_1, p_100_1, i_100_2, p_100_2, i_100_3, p_100_3, t_104, q_104_1, q_104_2, q_104_3, q_104_4, q_104_5, q_104_6, q_104_8, q_104_9, q_104_11, q_104_12, q_104_18, q_104_21, q_104_22, q_104_23, q_104_24, q_104_26, q_104_27, q_104_28, q_104_30, q_104_31, i_104_0, p_104_0, i_104_7, p_104_7, i_104_10, p_104_10, i_104_13, p_104_13, i_104_14, p_104_14, i_104_15, p_104_15, i_104_16, p_104_16, i_104_17, p_104_17, i_104_19, p_104_19, i_104_20, p_104_20, i_104_25, p_104_25, i_104_29, p_104_29, a_2, w_2, a_81, w_81, a_89, w_89, a_91, w_91, a_93, w_93, a_94, w_94, a_95, w_95, a_105, w_105, a_106, w_106, a_107, w_107, a_108, w_108, a_109, w_109, a_110, w_110, a_111, w_111, a_112, w_112, a_113, w_113, a_114, w_114, a_115, w_115, a_116, w_116, a_117, w_117, a_118, w_118, a_119, w_119, a_120, w_120, a_121, w_121, a_122, w_122, a_123, w_123, a_124, w_124, m_here h h15 hx, bb]
      rfl
    · obtain ⟨C1, hC1⟩ : ∃ C1, C1 = up C 104 15 (p : Nat) := ⟨_, rfl⟩
      have f1 : FrL C C1 m := by rw [hC1]; exact FrL.up (by omega)
      have h1x : TxM C1 n tx := h.fr (f1.2.1 13 (by omega) (by omega) (by omega) (by omega)) (f1.1 114 (by omega))
      have h1D : GDig C1 := hD.fr (by rw [hC1]; exact up_ne (by omega))
      have h116 : C1 104 16 = m := by rw [hC1, up_nk (by omega)]; exact h16
      have h115 : C1 104 15 = (p : Nat) := by rw [hC1, up_eq]
      have h114 : C1 104 14 = C 104 14 := by rw [hC1, up_nk (by omega)]
      have s1 : ∀ a, 105 ≤ a → a ≤ 109 → C1 a = C a := fun a q1 q2 => by rw [hC1, up_ne (by omega)]
      have h1R : ∀ b, b < m → RBk C1 b := fun b hb => RBk_fr s1 (hR b hb)
      have h1k : ∀ b, b < m → keyR C1 b = κ b := fun b hb => by rw [keyR_fr s1]; exact hκ b hb
      have et : tld (keyR C1) m (knT tx n p) = tld κ m (knT tx n p) := tld_congr (fun b hb i _ => by rw [h1k b hb]) (fun i _ => rfl)
      obtain ⟨a1, a2⟩ := m_takeBook (z := z) (g := g) h1x h116 h24 h115 (show p < n by omega) h1D h1R
      rw [et] at a2
      have tp : 0 ≤ tx p ∧ tx p ≤ 255 := (h.2.2.1 p (by omega)).2
      have first : ∀ (K : Int32 → Mem → Prop) (kc : (Mem × Int32) → Prop), BX11_books_20 K (ad z 104) kc (lay z g C, J 0) = PX11_takeBook (ad z 104) (lay z g C1) (fun r14 M15 => kc (M15, r14)) := fun K kc => by
        unfold BX11_books_20 CX11_books_20
        simp (disch := omega) only [J_add, J_sub, J_mul, J_lt, J_le, J_eq, xbr_true, xbr_false, xbr_pos, xbr_neg, Int.toNat_natCast, all_eq, ex_eq, t_0, q_0_0, q_0_1, q_0_2, q_0_3, q_0_4, q_0_5, q_0_6, q_0_7, q_0_8, q_0_9, i_0_10, p_0_10, i_0_11, p_0_11, i_0_12, p_0_12, t_1, q_1_0, t_3, q_3_0, q_3_1, i_3_2, p_3_2, i_3_3, p_3_3, t_80, q_80_0, t_88, q_88_0, t_90, q_90_0, t_92, q_92_0, q_92_1, q_92_2, i_92_3, p_92_3, i_92_4, p_92_4, t_96, q_96_0, i_96_1, p_96_1, i_96_2, p_96_2, i_96_3, p_96_3, t_100, q_100_0, i_100_1, p_100_1, i_100_2, p_100_2, i_100_3, p_100_3, t_104, q_104_1, q_104_2, q_104_3, q_104_4, q_104_5, q_104_6, q_104_8, q_104_9, q_104_11, q_104_12, q_104_18, q_104_21, q_104_22, q_104_23, q_104_24, q_104_26, q_104_27, q_104_28, q_104_30, q_104_31, i_104_0, p_104_0, i_104_7, p_104_7, i_104_10, p_104_10, i_104_13, p_104_13, i_104_14, p_104_14, i_104_15, p_104_15, i_104_16, p_104_16, i_104_17, p_104_17, i_104_19, p_104_19, i_104_20, p_104_20, i_104_25, p_104_25, i_104_29, p_104_29, a_2, w_2, a_81, w_81, a_89, w_89, a_91, w_91, a_93, w_93, a_94, w_94, a_95, w_95, a_105, w_105, a_106, w_106, a_107, w_107, a_108, w_108, a_109, w_109, a_110, w_110, a_111, w_111, a_112, w_112, a_113, w_113, a_114, w_114, a_115, w_115, a_116, w_116, a_117, w_117, a_118, w_118, a_119, w_119, a_120, w_120, a_121, w_121, a_122, w_122, a_123, w_123, a_124, w_124, m_here h h15 hx, ← hp, ← hC1]
      have fail : ∀ f l : Nat, f ≠ 0 → f ≤ 5 → FlM z g C1 m f l (fun K => PX11_takeBook (ad z 104) (lay z g C1) K) → ∃ C' : Nat → Nat → Int, FrL C C' m ∧ GDig C' ∧ C' 104 14 = (if f = 0 then C 104 14 else (l : Int)) ∧ m ≤ m ∧ m ≤ 24 ∧ (∀ b, b < m → ps b = ps b) ∧ (f = 0 → C' 104 16 = m ∧ ∀ b, m ≤ b → b < m → RefAt C' tx n b (ps b) ∧ RBk C' b) ∧ ∀ K, lp (BX11_books_20 K (ad z 104)) (lay z g C, J 0) = JX11_books_39 K (lay z g C') (ad z 104) (J (f : Nat)) := by
        intro f l hf hf5 hF
        obtain ⟨C', q1, q2, q3, q4⟩ := hF
        refine ⟨C', f1.trans (FrL.ofM q1) (Nat.le_refl _), q2 h1D, by rw [if_neg hf]; exact q3, Nat.le_refl _, h24, fun _ _ => rfl, fun q => absurd q hf, fun K => ?_⟩
        have st : lp (BX11_books_20 K (ad z 104)) (lay z g C, J 0) = lp (BX11_books_20 K (ad z 104)) (lay z g C', J (f : Nat)) := lp_step fun kc => by
          rw [first]
          exact q4 _
        rw [st]
        refine lp_last fun kc => ?_
        unfold BX11_books_20 CX11_books_20
        simp (disch := omega) only [J_add, J_sub, J_mul, J_lt, J_le, J_eq, xbr_true, xbr_false, xbr_pos, xbr_neg, Int.toNat_natCast, all_eq, ex_eq]
      have b5 := clF_b (tx := tx) (n := n) (decide (m = 24)) p
      by_cases c1 : (clF tx n (decide (m = 24)) p).1 = 0
      · obtain ⟨⟨hm, lE, gE⟩, b1, b2⟩ := a2 c1
        by_cases c2 : tld κ m (knT tx n p) = true
        · have e : rnT tx n (k + 1) p m κ ps = (5, enT tx n p, m, ps) := by
            show (if n ≤ p then _ else if (clF tx n (decide (m = 24)) p).1 ≠ 0 then _ else if tld κ m (knT tx n p) = true then _ else _) = _
            rw [if_neg c0, if_neg (by omega), if_pos c2]
          rw [e]
          exact fail 5 (enT tx n p) (by omega) (by omega) (b1 c2)
        · have e : rnT tx n (k + 1) p m κ ps = rnT tx n k (skp tx n (enT tx n p + 1)) (m + 1) (fun b => if b = m then knT tx n p else κ b) (fun b => if b = m then p else ps b) := by
            show (if n ≤ p then _ else if (clF tx n (decide (m = 24)) p).1 ≠ 0 then _ else if tld κ m (knT tx n p) = true then _ else _) = _
            rw [if_neg c0, if_neg (by omega), if_neg c2]
          rw [e]
          obtain ⟨C0, q1, q2, q3, q4, q5, q6, q7, q8⟩ := b2 c2
          obtain ⟨C2, hC2⟩ : ∃ C2, C2 = up C0 104 16 ((m + 1 : Nat) : Int) := ⟨_, rfl⟩
          rw [← hC2] at q8
          have f2 : FrL C0 C2 (m + 1) := by rw [hC2]; exact FrL.up (by omega)
          have f02 : FrL C C2 m := (f1.trans (FrL.ofM q1) (Nat.le_refl _)).trans f2 (by omega)
          have s2 : ∀ a, 105 ≤ a → a ≤ 109 → C2 a = C0 a := fun a r1 r2 => by rw [hC2, up_ne (by omega)]
          have sg1 := skp_ge (tx := tx) (n := n) (p := enT tx n p + 1)
          obtain ⟨C', r1, r2, r3, r4, r5, r6, r7, r8⟩ := ih (skp tx n (enT tx n p + 1)) (m + 1) C2 (enT tx n p + 1) (fun b => if b = m then knT tx n p else κ b) (fun b => if b = m then p else ps b) (h.fr (f02.2.1 13 (by omega) (by omega) (by omega) (by omega)) (f02.1 114 (by omega))) (q2.fr (s2 105 (by omega) (by omega))) (by rw [hC2, up_eq]) (by omega) (by rw [hC2, up_nk (by omega)]; exact q3) (by omega) rfl (by omega) (fun b hb => by
              refine RBk_fr s2 ?_
              by_cases w : b = m
              · rw [w]; exact q6
              · exact (q7 b (by omega)).1) (fun b hb => by
              rw [keyR_fr s2]
              by_cases w : b = m
              · rw [if_pos w, w]; exact q5.key
              · rw [if_neg w, (q7 b (by omega)).2]; exact h1k b (by omega))
          generalize rnT tx n k (skp tx n (enT tx n p + 1)) (m + 1) (fun b => if b = m then knT tx n p else κ b) (fun b => if b = m then p else ps b) = R at *
          refine ⟨C', f02.trans r1 (by omega), r2, ?_, by omega, r5, fun b hb => by rw [r6 b (by omega), if_neg (by omega)], fun w => ⟨(r7 w).1, fun b w1 w2 => ?_⟩, fun K => ?_⟩
          · rw [r3, show C2 104 14 = C 104 14 by rw [hC2, up_nk (by omega), q4, h114]]
          · by_cases w3 : b = m
            · subst w3
              have e1 : ∀ j, j < 16 → C' 105 (16 * b + j) = C0 105 (16 * b + j) := fun j hj => by rw [r1.2.2.1 b j (by omega) hj, s2 105 (by omega) (by omega)]
              have e2 : ∀ a, 106 ≤ a → a ≤ 109 → C' a b = C0 a b := fun a v1 v2 => by rw [r1.2.2.2 a b v1 v2 (by omega), s2 a (by omega) v2]
              rw [r6 b (by omega), if_pos rfl]
              exact ⟨q5.fr e1 e2, RBk_at q6 e1 e2⟩
            · exact (r7 w).2 b (by omega) w2
          · rw [← r8 K]
            refine lp_step fun kc => ?_
            rw [first]
            exact q8 _
      · have e : rnT tx n (k + 1) p m κ ps = ((clF tx n (decide (m = 24)) p).1, (clF tx n (decide (m = 24)) p).2, m, ps) := by
          show (if n ≤ p then _ else if (clF tx n (decide (m = 24)) p).1 ≠ 0 then _ else _) = _
          rw [if_neg c0, if_pos c1]
        rw [e]
        exact fail _ _ c1 b5 (a1 c1)
end RLO
