/-! LAID ANEW: lay -/
section LAYF
variable {z : Nat} {g : Mem} {C C' D E : Nat → Nat → Int} {nb : Nat} {A A' : Rw}
theorem lnS_congr (h : ∀ o, 5 ≤ o → o ≤ 79 → C' o = C o) : lnS C' A nb = lnS C A nb := by
  unfold lnS
  have : ∀ n, srtA C' 0 (fun b => decide (idx A b < A.1)) n = srtA C 0 (fun b => decide (idx A b < A.1)) n := by
    intro n
    induction n with
    | zero => rfl
    | succ n ih =>
      show (if _ then insL (srtA C' 0 _ n) (spotA C' (srtA C' 0 _ n) n 0) n else srtA C' 0 _ n) = (if _ then _ else _)
      rw [ih, spotA_congr h]
  exact this nb
theorem lyS_congr {W W' w w' : Nat → Int} {lst : Int} {n : Nat} {L : Nat → Nat} (hL : ∀ i, i < n → L i < nb) (hi : ∀ i j, i < n → j < n → L i = L j → i = j) (hW : ∀ s, s < 8 → W s = W' s) (hw : ∀ b, b < nb → w b = w' b) : ∀ t, t ≤ lyE W w lst n L → lyS W w lst n L t = lyS W' w' lst n L t := by
  intro t
  induction t with
  | zero => exact fun _ => rfl
  | succ t ih =>
    intro ht
    obtain ⟨hy, -⟩ := lyS_ok (W := W) (w := w) (lst := lst) (n := n) (L := L) t
    obtain ⟨hk, hs⟩ := lyE_lt (W := W) (w := w) (lst := lst) (n := n) (L := L) (t := t) (by omega)
    show lyT W w lst (lyS W w lst n L t) = lyT W' w' lst (lyS W' w' lst n L t)
    rw [← ih (by omega)]
    have hP := hy.p (by omega) (by omega) hL hi
    have gc := goA_congr (lst := lst) hP hs (by rw [hy.1]; exact hk) hW hw
    by_cases c : goA W w lst (lyS W w lst n L t).2.2 (lyS W w lst n L t).1 (lyS W w lst n L t).2.1
    · rw [lyT_yes c, lyT_yes (gc.mp c)]
    · rw [lyT_no c, lyT_no (fun q => c (gc.mpr q))]
theorem lyE_low {W w : Nat → Int} {lst : Int} {n : Nat} {L : Nat → Nat} : n ≤ (lyS W w lst n L (lyE W w lst n L)).2.1 → (lyS W w lst n L (lyE W w lst n L)).1 < 8 := by
  cases he : lyE W w lst n L with
  | zero => exact fun _ => by show 0 < 8; omega
  | succ t =>
    have h3 := lyE_lt (W := W) (w := w) (lst := lst) (n := n) (L := L) (t := t) (by omega)
    show n ≤ (lyT W w lst (lyS W w lst n L t)).2.1 → (lyT W w lst (lyS W w lst n L t)).1 < 8
    generalize lyS W w lst n L t = x at *
    by_cases c : goA W w lst x.2.2 x.1 x.2.1
    · rw [lyT_yes c]
      exact fun _ => h3.2
    · rw [lyT_no c]
      exact fun h => by have h' : n ≤ x.2.1 := h; omega
theorem op_lay (h : Inv C nb A) {lst : Int} (hv : -2147483648 ≤ lst ∧ lst < 2147483648) : ∃ (r : Int) (C1 C2 : Nat → Nat → Int) (A2 : Rw), (∀ K, PX10_lay (ad z 0) (J lst) (lay z g C) K = K (J r) (lay z g C1)) ∧ (∀ K, PX11_lay (ad z 104) (J lst) (lay z g C1) K = K (J r) (lay z g C2)) ∧ Inv C2 nb A2 := by
  obtain ⟨g1, g2, g3, g4, g5, g6, g7⟩ := h.2.1
  obtain ⟨k1, k2, k3⟩ := h.2.2.2.2.2.2.1
  have l24 := k2.2.1
  by_cases c : 0 ≤ lst ∧ lst ≤ 30
  · obtain ⟨D, d1, d2, hD⟩ := s_layAnew (z := z) (g := g) h c.1 c.2
    have oS := srtA_ok (k := 0) (P := fun b => decide (idx A b < A.1)) g5 g1
    have hLn : ∀ i, i < (lnS C A nb).1 → (lnS C A nb).2.1 i < nb := fun i hi => (oS.1 i hi).1
    have hLi : ∀ i j, i < (lnS C A nb).1 → j < (lnS C A nb).1 → (lnS C A nb).2.1 i = (lnS C A nb).2.1 j → i = j := oS.inj
    have hlen := lnS_len g5 k3 g1
    obtain ⟨hy, -⟩ := lyS_ok (W := C 110) (w := C 109) (lst := lst) (n := (lnS C A nb).1) (L := (lnS C A nb).2.1) (lyE (C 110) (C 109) lst (lnS C A nb).1 (lnS C A nb).2.1)
    obtain ⟨ht1, ht2, ht3⟩ := lyE_at (W := C 110) (w := C 109) (lst := lst) (n := (lnS C A nb).1) (L := (lnS C A nb).2.1)
    have hlt := lyE_low (W := C 110) (w := C 109) (lst := lst) (n := (lnS C A nb).1) (L := (lnS C A nb).2.1)
    -- the reference, from any memory that agrees
    have mref : ∀ F : Nat → Nat → Int, (∀ a, a < 82 ∨ 87 < a → F a = C a) → ∃ E : Nat → Nat → Int, (∀ a, a ≠ 104 → a ≠ 111 → a ≠ 116 → a ≠ 117 → E a = F a) ∧ (∀ j, j ≠ 20 → E 104 j = F 104 j) ∧ (∀ i, i < (lnS C A nb).1 → E 111 i = (lnS C A nb).2.1 i) ∧ WasM E A ∧ ∀ K, PX11_lay (ad z 104) (J lst) (lay z g F) K = lp (BX11_lay_161 K (ad z 104) (J lst)) (lay z g (onC E (lyS (C 110) (C 109) lst (lnS C A nb).1 (lnS C A nb).2.1 (lyE (C 110) (C 109) lst (lnS C A nb).1 (lnS C A nb).2.1)).2.2), J ((lyS (C 110) (C 109) lst (lnS C A nb).1 (lnS C A nb).2.1 (lyE (C 110) (C 109) lst (lnS C A nb).1 (lnS C A nb).2.1)).1 : Nat), J (if (lyS (C 110) (C 109) lst (lnS C A nb).1 (lnS C A nb).2.1 (lyE (C 110) (C 109) lst (lnS C A nb).1 (lnS C A nb).2.1)).1 < 8 then usedA (C 109) (lyS (C 110) (C 109) lst (lnS C A nb).1 (lnS C A nb).2.1 (lyE (C 110) (C 109) lst (lnS C A nb).1 (lnS C A nb).2.1)).2.2 (lyS (C 110) (C 109) lst (lnS C A nb).1 (lnS C A nb).2.1 (lyE (C 110) (C 109) lst (lnS C A nb).1 (lnS C A nb).2.1)).1 else 0), J ((lyS (C 110) (C 109) lst (lnS C A nb).1 (lnS C A nb).2.1 (lyE (C 110) (C 109) lst (lnS C A nb).1 (lnS C A nb).2.1)).2.1 : Nat)) := by
      intro F hF
      have k2' : RowM F A := k2.fr (by rw [hF _ (by omega)]) (hF _ (by omega)) (hF _ (by omega))
      obtain ⟨s1, s2⟩ := k2'.sav
      have fS : ∀ a, a ≠ 104 → a ≠ 116 → a ≠ 117 → a < 82 ∨ 87 < a → savC F 25 8 a = C a := fun a h1 h2 h3 h4 => by rw [savC_ne ⟨h1, h2, h3⟩, hF a h4]
      have hB : ∀ b, b < nb → BkRel (savC F 25 8) b := fun b hb => (g6 b hb).fr (by omega) (fun a _ _ => fS a (by omega) (by omega) (by omega) (by omega)) (fun a _ _ => fS a (by omega) (by omega) (by omega) (by omega))
      have hO : BooksOk (savC F 25 8) := g5.fr (fun o _ _ => fS o (by omega) (by omega) (by omega) (by omega))
      have f0 : savC F 25 8 104 0 = nb := by rw [savC_104 (by omega), hF _ (by omega)]; exact g4
      have eL : lnS (savC F 25 8) A nb = lnS C A nb := lnS_congr (fun o _ _ => fS o (by omega) (by omega) (by omega) (by omega))
      obtain ⟨E, e1, e2, hE⟩ := m_lay22 (z := z) (g := g) (K := fun _ _ => True) (x := J lst) s2 k3 l24 g1 f0 hB hO nb (Nat.le_refl _)
      rw [eL] at e2
      have e2' : ∀ i, i < (lnS C A nb).1 → E 111 i = (lnS C A nb).2.1 i := fun i hi => e2 i hi (hLn i hi)
      have wE : WasM E A := s2.fr (by rw [e1 _ (by omega)]) (e1 _ (by omega)) (e1 _ (by omega))
      have E110 : E 110 = C 110 := by rw [e1 _ (by omega), fS _ (by omega) (by omega) (by omega) (by omega)]
      have E109 : E 109 = C 109 := by rw [e1 _ (by omega), fS _ (by omega) (by omega) (by omega) (by omega)]
      have E0 : E 104 0 = nb := by rw [e1 _ (by omega)]; exact f0
      have m161 := m_lay161 (z := z) (g := g) (D := E) (lst := lst) hLn hLi (by omega) g1 (by rw [hlen]; exact wE.1) e2' (fun b hb => by rw [E109]; have := g6 b hb; unfold BkRel at this; omega) (fun s hs => by rw [E110]; exact h.smm.2.2 s hs) c.1 c.2
      rw [E110, E109] at m161
      refine ⟨E, fun a h1 h2 h3 h4 => by rw [e1 a h2, savC_ne ⟨h1, h3, h4⟩], fun j hj => by rw [e1 _ (by omega), savC_104 hj], e2', wE, fun K => ?_⟩
      unfold PX11_lay
      simp (disch := omega) only [J_add, J_sub, J_mul, J_lt, J_le, J_eq, xbr_true, xbr_false, xbr_pos, xbr_neg, Int.toNat_natCast, all_eq, ex_eq, t_0, q_0_0, q_0_1, q_0_2, q_0_3, q_0_4, q_0_5, q_0_6, q_0_7, q_0_8, q_0_9, i_0_10, p_0_10, i_0_11, p_0_11, i_0_12, p_0_12, t_1, q_1_0, t_3, q_3_0, q_3_1, i_3_2, p_3_2, i_3_3, p_3_3, t_80, q_80_0, t_88, q_88_0, t_90, q_90_0, t_92, q_92_0, q_92_1, q_92_2, i_92_3, p_92_3, i_92_4, p_92_4, t_96, q_96_0, i_96_1, p_96_1, i_96_2, p_96_2, i_96_3, p_96_3, t_100, q_100_0, i_100_1, p_100_1, i_100_2, p_100_2, i_100_3, p_100_3, t_104, q_104_1, q_104_2, q_104_3, q_104_4, q_104_5, q_104_6, q_104_8, q_104_9, q_104_11, q_104_12, q_104_18, q_104_21, q_104_22, q_104_23, q_104_24, q_104_26, q_104_27, q_104_28, q_104_30, q_104_31, i_104_0, p_104_0, i_104_7, p_104_7, i_104_10, p_104_10, i_104_13, p_104_13, i_104_14, p_104_14, i_104_15, p_104_15, i_104_16, p_104_16, i_104_17, p_104_17, i_104_19, p_104_19, i_104_20, p_104_20, i_104_25, p_104_25, i_104_29, p_104_29, a_2, w_2, a_81, w_81, a_89, w_89, a_91, w_91, a_93, w_93, a_94, w_94, a_95, w_95, a_105, w_105, a_106, w_106, a_107, w_107, a_108, w_108, a_109, w_109, a_110, w_110, a_111, w_111, a_112, w_112, a_113, w_113, a_114, w_114, a_115, w_115, a_116, w_116, a_117, w_117, a_118, w_118, a_119, w_119, a_120, w_120, a_121, w_121, a_122, w_122, a_123, w_123, a_124, w_124, J_long, m_in, if_pos c, m_save]
      rw [hE K]
      have st : lp (BX11_lay_22 K (ad z 104) (J lst)) (lay z g E, J (nb : Nat)) = lp (BX11_lay_135 K (ad z 104) (J lst)) (lay z g E, J 0) := lp_last fun kc => by
        unfold BX11_lay_22 CX11_lay_22
        simp (disch := omega) only [J_add, J_sub, J_mul, J_lt, J_le, J_eq, xbr_true, xbr_false, xbr_pos, xbr_neg, Int.toNat_natCast, all_eq, ex_eq, t_0, q_0_0, q_0_1, q_0_2, q_0_3, q_0_4, q_0_5, q_0_6, q_0_7, q_0_8, q_0_9, i_0_10, p_0_10, i_0_11, p_0_11, i_0_12, p_0_12, t_1, q_1_0, t_3, q_3_0, q_3_1, i_3_2, p_3_2, i_3_3, p_3_3, t_80, q_80_0, t_88, q_88_0, t_90, q_90_0, t_92, q_92_0, q_92_1, q_92_2, i_92_3, p_92_3, i_92_4, p_92_4, t_96, q_96_0, i_96_1, p_96_1, i_96_2, p_96_2, i_96_3, p_96_3, t_100, q_100_0, i_100_1, p_100_1, i_100_2, p_100_2, i_100_3, p_100_3, t_104, q_104_1, q_104_2, q_104_3, q_104_4, q_104_5, q_104_6, q_104_8, q_104_9, q_104_11, q_104_12, q_104_18, q_104_21, q_104_22, q_104_23, q_104_24, q_104_26, q_104_27, q_104_28, q_104_30, q_104_31, i_104_0, p_104_0, i_104_7, p_104_7, i_104_10, p_104_10, i_104_13, p_104_13, i_104_14, p_104_14, i_104_15, p_104_15, i_104_16, p_104_16, i_104_17, p_104_17, i_104_19, p_104_19, i_104_20, p_104_20, i_104_25, p_104_25, i_104_29, p_104_29, a_2, w_2, a_81, w_81, a_89, w_89, a_91, w_91, a_93, w_93, a_94, w_94, a_95, w_95, a_105, w_105, a_106, w_106, a_107, w_107, a_108, w_108, a_109, w_109, a_110, w_110, a_111, w_111, a_112, w_112, a_113, w_113, a_114, w_114, a_115, w_115, a_116, w_116, a_117, w_117, a_118, w_118, a_119, w_119, a_120, w_120, a_121, w_121, a_122, w_122, a_123, w_123, a_124, w_124, E0]
      rw [st, m_lay135 (n := (lnS C A nb).1) (L := (lnS C A nb).2.1)]
      exact m161 _ (Nat.le_refl _) K
    generalize lyS (C 110) (C 109) lst (lnS C A nb).1 (lnS C A nb).2.1 (lyE (C 110) (C 109) lst (lnS C A nb).1 (lnS C A nb).2.1) = x at *
    obtain ⟨s, k, B⟩ := x
    simp only at hy ht1 ht2 ht3 d2 hD mref hlt
    have hB1 := hy.1
    by_cases q : (lnS C A nb).1 ≤ k
    · have hk : k = (lnS C A nb).1 := by omega
      simp only [if_pos q] at hD
      have hP := hy.p ht3 ht2 hLn hLi
      have hsum : sumN B.2.2 8 = B.1 := by
        have h1 := hP.2.2
        have h3 := hy.2.2.2
        have hs8 := hlt q
        have := hy.tot (b := 8) (by omega)
        omega
      have hok : RwOk B nb := ⟨hP.1, hP.2.1, hsum⟩
      have k1D : RowC D 82 A := k1.fr (d1 _ (by omega)) (d1 _ (by omega)) (d1 _ (by omega))
      have rc := RowC.cp (r := 82) d2 hok g1
      obtain ⟨C1, hC1⟩ : ∃ C1, C1 = cpC D 82 85 24 := ⟨_, rfl⟩
      rw [← hC1] at rc
      have f1 : ∀ a, a < 82 ∨ 87 < a → C1 a = C a := fun a ha => by rw [hC1, cpC_ne (by omega), d1 a (by omega)]
      have f85 : ∀ a, 85 ≤ a → a ≤ 87 → C1 a = D a := fun a _ _ => by rw [hC1, cpC_ne (by omega)]
      obtain ⟨E, e1, e2, e3, e4, hE⟩ := mref C1 f1
      have k2E : RowM (onC E B) B := by
        refine ⟨?_, by rw [hB1, hlen]; exact l24, fun i hi => ?_, fun s hs => onC_s hs⟩
        · rw [onC_ne (by omega), e2 _ (by omega), f1 _ (by omega), hB1, hlen]; exact k2.1
        · rw [onC_ne (by omega), e3 i (by omega), hy.2.1]
      have wE : WasM (onC E B) A := e4.fr (by rw [onC_ne (by omega)]) (onC_ne (by omega)) (onC_ne (by omega))
      have o0 : onC E B 104 0 = nb := by rw [onC_ne (by omega), e2 _ (by omega), f1 _ (by omega)]; exact g4
      refine ⟨(crd A B nb : Nat), C1, onC E B, B, fun K => ?_, fun K => ?_, ?_⟩
      · unfold PX10_lay
        have sc := fun K => s_crd (z := z) (g := g) (K := K) r82 k1D k3 r85 d2 hok g1
        simp (disch := omega) only [J_add, J_sub, J_mul, J_lt, J_le, J_eq, xbr_true, xbr_false, xbr_pos, xbr_neg, Int.toNat_natCast, all_eq, ex_eq, t_0, q_0_0, q_0_1, q_0_2, q_0_3, q_0_4, q_0_5, q_0_6, q_0_7, q_0_8, q_0_9, i_0_10, p_0_10, i_0_11, p_0_11, i_0_12, p_0_12, t_1, q_1_0, t_3, q_3_0, q_3_1, i_3_2, p_3_2, i_3_3, p_3_3, t_80, q_80_0, t_88, q_88_0, t_90, q_90_0, t_92, q_92_0, q_92_1, q_92_2, i_92_3, p_92_3, i_92_4, p_92_4, t_96, q_96_0, i_96_1, p_96_1, i_96_2, p_96_2, i_96_3, p_96_3, t_100, q_100_0, i_100_1, p_100_1, i_100_2, p_100_2, i_100_3, p_100_3, t_104, q_104_1, q_104_2, q_104_3, q_104_4, q_104_5, q_104_6, q_104_8, q_104_9, q_104_11, q_104_12, q_104_18, q_104_21, q_104_22, q_104_23, q_104_24, q_104_26, q_104_27, q_104_28, q_104_30, q_104_31, i_104_0, p_104_0, i_104_7, p_104_7, i_104_10, p_104_10, i_104_13, p_104_13, i_104_14, p_104_14, i_104_15, p_104_15, i_104_16, p_104_16, i_104_17, p_104_17, i_104_19, p_104_19, i_104_20, p_104_20, i_104_25, p_104_25, i_104_29, p_104_29, a_2, w_2, a_81, w_81, a_89, w_89, a_91, w_91, a_93, w_93, a_94, w_94, a_95, w_95, a_105, w_105, a_106, w_106, a_107, w_107, a_108, w_108, a_109, w_109, a_110, w_110, a_111, w_111, a_112, w_112, a_113, w_113, a_114, w_114, a_115, w_115, a_116, w_116, a_117, w_117, a_118, w_118, a_119, w_119, a_120, w_120, a_121, w_121, a_122, w_122, a_123, w_123, a_124, w_124, hD, sc, s_copyFrom r82 r85 (by omega), hC1]
      · rw [hE]
        refine lp_last fun kc => ?_
        have mc := fun K => m_carried (z := z) (g := g) (K := K) k2E hok wE k3 l24 g1 o0
        have v20 : onC E B 104 20 = (lnS C A nb).1 := by rw [hlen]; exact wE.1
        unfold BX11_lay_161 CX11_lay_161 JX11_lay_289
        simp (disch := omega) only [J_add, J_sub, J_mul, J_lt, J_le, J_eq, xbr_true, xbr_false, xbr_pos, xbr_neg, Int.toNat_natCast, all_eq, ex_eq, t_0, q_0_0, q_0_1, q_0_2, q_0_3, q_0_4, q_0_5, q_0_6, q_0_7, q_0_8, q_0_9, i_0_10, p_0_10, i_0_11, p_0_11, i_0_12, p_0_12, t_1, q_1_0, t_3, q_3_0, q_3_1, i_3_2, p_3_2, i_3_3, p_3_3, t_80, q_80_0, t_88, q_88_0, t_90, q_90_0, t_92, q_92_0, q_92_1, q_92_2, i_92_3, p_92_3, i_92_4, p_92_4, t_96, q_96_0, i_96_1, p_96_1, i_96_2, p_96_2, i_96_3, p_96_3, t_100, q_100_0, i_100_1, p_100_1, i_100_2, p_100_2, i_100_3, p_100_3, t_104, q_104_1, q_104_2, q_104_3, q_104_4, q_104_5, q_104_6, q_104_8, q_104_9, q_104_11, q_104_12, q_104_18, q_104_21, q_104_22, q_104_23, q_104_24, q_104_26, q_104_27, q_104_28, q_104_30, q_104_31, i_104_0, p_104_0, i_104_7, p_104_7, i_104_10, p_104_10, i_104_13, p_104_13, i_104_14, p_104_14, i_104_15, p_104_15, i_104_16, p_104_16, i_104_17, p_104_17, i_104_19, p_104_19, i_104_20, p_104_20, i_104_25, p_104_25, i_104_29, p_104_29, a_2, w_2, a_81, w_81, a_89, w_89, a_91, w_91, a_93, w_93, a_94, w_94, a_95, w_95, a_105, w_105, a_106, w_106, a_107, w_107, a_108, w_108, a_109, w_109, a_110, w_110, a_111, w_111, a_112, w_112, a_113, w_113, a_114, w_114, a_115, w_115, a_116, w_116, a_117, w_117, a_118, w_118, a_119, w_119, a_120, w_120, a_121, w_121, a_122, w_122, a_123, w_123, a_124, w_124, v20, mc]
      · refine h.work (fun a ha => ?_) (fun j hj => ?_) ⟨rc.fr ?_ ?_ ?_, k2E, hok⟩ (d2.2.2.2.2.fr ?_ ?_ ?_)
        · unfold freeO at ha
          rw [onC_ne (by omega), e1 a (by omega) (by omega) (by omega) (by omega), f1 a (by omega)]
        · rw [onC_ne (by omega), e2 _ (by omega), f1 _ (by omega)]
        all_goals rw [onC_ne (by omega), e1 _ (by omega) (by omega) (by omega) (by omega)]
        all_goals exact f85 _ (by omega) (by omega)
    · simp only [if_neg q] at hD
      obtain ⟨E, e1, e2, e3, e4, hE⟩ := mref D (fun a ha => d1 a (by omega))
      have wE : WasM (onC E B) A := e4.fr (by rw [onC_ne (by omega)]) (onC_ne (by omega)) (onC_ne (by omega))
      have hs8 : s = 8 := by omega
      refine ⟨-1003, D, bakC (onC E B) 25 8, A, fun K => ?_, fun K => ?_, ?_⟩
      · unfold PX10_lay
        simp (disch := omega) only [J_add, J_sub, J_mul, J_lt, J_le, J_eq, xbr_true, xbr_false, xbr_pos, xbr_neg, Int.toNat_natCast, all_eq, ex_eq, t_0, q_0_0, q_0_1, q_0_2, q_0_3, q_0_4, q_0_5, q_0_6, q_0_7, q_0_8, q_0_9, i_0_10, p_0_10, i_0_11, p_0_11, i_0_12, p_0_12, t_1, q_1_0, t_3, q_3_0, q_3_1, i_3_2, p_3_2, i_3_3, p_3_3, t_80, q_80_0, t_88, q_88_0, t_90, q_90_0, t_92, q_92_0, q_92_1, q_92_2, i_92_3, p_92_3, i_92_4, p_92_4, t_96, q_96_0, i_96_1, p_96_1, i_96_2, p_96_2, i_96_3, p_96_3, t_100, q_100_0, i_100_1, p_100_1, i_100_2, p_100_2, i_100_3, p_100_3, t_104, q_104_1, q_104_2, q_104_3, q_104_4, q_104_5, q_104_6, q_104_8, q_104_9, q_104_11, q_104_12, q_104_18, q_104_21, q_104_22, q_104_23, q_104_24, q_104_26, q_104_27, q_104_28, q_104_30, q_104_31, i_104_0, p_104_0, i_104_7, p_104_7, i_104_10, p_104_10, i_104_13, p_104_13, i_104_14, p_104_14, i_104_15, p_104_15, i_104_16, p_104_16, i_104_17, p_104_17, i_104_19, p_104_19, i_104_20, p_104_20, i_104_25, p_104_25, i_104_29, p_104_29, a_2, w_2, a_81, w_81, a_89, w_89, a_91, w_91, a_93, w_93, a_94, w_94, a_95, w_95, a_105, w_105, a_106, w_106, a_107, w_107, a_108, w_108, a_109, w_109, a_110, w_110, a_111, w_111, a_112, w_112, a_113, w_113, a_114, w_114, a_115, w_115, a_116, w_116, a_117, w_117, a_118, w_118, a_119, w_119, a_120, w_120, a_121, w_121, a_122, w_122, a_123, w_123, a_124, w_124, hD]
      · rw [hE]
        refine lp_last fun kc => ?_
        have v20 : onC E B 104 20 = (lnS C A nb).1 := by rw [hlen]; exact wE.1
        unfold BX11_lay_161 CX11_lay_161 JX11_lay_289
        simp (disch := omega) only [J_add, J_sub, J_mul, J_lt, J_le, J_eq, xbr_true, xbr_false, xbr_pos, xbr_neg, Int.toNat_natCast, all_eq, ex_eq, t_0, q_0_0, q_0_1, q_0_2, q_0_3, q_0_4, q_0_5, q_0_6, q_0_7, q_0_8, q_0_9, i_0_10, p_0_10, i_0_11, p_0_11, i_0_12, p_0_12, t_1, q_1_0, t_3, q_3_0, q_3_1, i_3_2, p_3_2, i_3_3, p_3_3, t_80, q_80_0, t_88, q_88_0, t_90, q_90_0, t_92, q_92_0, q_92_1, q_92_2, i_92_3, p_92_3, i_92_4, p_92_4, t_96, q_96_0, i_96_1, p_96_1, i_96_2, p_96_2, i_96_3, p_96_3, t_100, q_100_0, i_100_1, p_100_1, i_100_2, p_100_2, i_100_3, p_100_3, t_104, q_104_1, q_104_2, q_104_3, q_104_4, q_104_5, q_104_6, q_104_8, q_104_9, q_104_11, q_104_12, q_104_18, q_104_21, q_104_22, q_104_23, q_104_24, q_104_26, q_104_27, q_104_28, q_104_30, q_104_31, i_104_0, p_104_0, i_104_7, p_104_7, i_104_10, p_104_10, i_104_13, p_104_13, i_104_14, p_104_14, i_104_15, p_104_15, i_104_16, p_104_16, i_104_17, p_104_17, i_104_19, p_104_19, i_104_20, p_104_20, i_104_25, p_104_25, i_104_29, p_104_29, a_2, w_2, a_81, w_81, a_89, w_89, a_91, w_91, a_93, w_93, a_94, w_94, a_95, w_95, a_105, w_105, a_106, w_106, a_107, w_107, a_108, w_108, a_109, w_109, a_110, w_110, a_111, w_111, a_112, w_112, a_113, w_113, a_114, w_114, a_115, w_115, a_116, w_116, a_117, w_117, a_118, w_118, a_119, w_119, a_120, w_120, a_121, w_121, a_122, w_122, a_123, w_123, a_124, w_124, v20, m_back]
      · refine h.work (fun a ha => ?_) (fun j hj => ?_) ⟨k1.fr ?_ ?_ ?_, wE.bak l24, k3⟩ (d2.2.2.2.2.fr ?_ ?_ ?_)
        · unfold freeO at ha
          rw [bakC_ne (by omega), onC_ne (by omega), e1 a (by omega) (by omega) (by omega) (by omega), d1 a (by omega)]
        · rw [bakC_104 (by omega), onC_ne (by omega), e2 _ (by omega), d1 _ (by omega)]
        all_goals rw [bakC_ne (by omega), onC_ne (by omega), e1 _ (by omega) (by omega) (by omega) (by omega)]
        all_goals exact d1 _ (by omega)
  · refine ⟨-1002, C, C, A, fun K => ?_, fun K => ?_, h⟩
    · unfold PX10_lay
      by_cases c2 : lst < 0
      · simp (disch := omega) only [J_add, J_sub, J_mul, J_lt, J_le, J_eq, xbr_true, xbr_false, xbr_pos, xbr_neg, Int.toNat_natCast, all_eq, ex_eq, t_0, q_0_0, q_0_1, q_0_2, q_0_3, q_0_4, q_0_5, q_0_6, q_0_7, q_0_8, q_0_9, i_0_10, p_0_10, i_0_11, p_0_11, i_0_12, p_0_12, t_1, q_1_0, t_3, q_3_0, q_3_1, i_3_2, p_3_2, i_3_3, p_3_3, t_80, q_80_0, t_88, q_88_0, t_90, q_90_0, t_92, q_92_0, q_92_1, q_92_2, i_92_3, p_92_3, i_92_4, p_92_4, t_96, q_96_0, i_96_1, p_96_1, i_96_2, p_96_2, i_96_3, p_96_3, t_100, q_100_0, i_100_1, p_100_1, i_100_2, p_100_2, i_100_3, p_100_3, t_104, q_104_1, q_104_2, q_104_3, q_104_4, q_104_5, q_104_6, q_104_8, q_104_9, q_104_11, q_104_12, q_104_18, q_104_21, q_104_22, q_104_23, q_104_24, q_104_26, q_104_27, q_104_28, q_104_30, q_104_31, i_104_0, p_104_0, i_104_7, p_104_7, i_104_10, p_104_10, i_104_13, p_104_13, i_104_14, p_104_14, i_104_15, p_104_15, i_104_16, p_104_16, i_104_17, p_104_17, i_104_19, p_104_19, i_104_20, p_104_20, i_104_25, p_104_25, i_104_29, p_104_29, a_2, w_2, a_81, w_81, a_89, w_89, a_91, w_91, a_93, w_93, a_94, w_94, a_95, w_95, a_105, w_105, a_106, w_106, a_107, w_107, a_108, w_108, a_109, w_109, a_110, w_110, a_111, w_111, a_112, w_112, a_113, w_113, a_114, w_114, a_115, w_115, a_116, w_116, a_117, w_117, a_118, w_118, a_119, w_119, a_120, w_120, a_121, w_121, a_122, w_122, a_123, w_123, a_124, w_124]
      · simp (disch := omega) only [J_add, J_sub, J_mul, J_lt, J_le, J_eq, xbr_true, xbr_false, xbr_pos, xbr_neg, Int.toNat_natCast, all_eq, ex_eq, t_0, q_0_0, q_0_1, q_0_2, q_0_3, q_0_4, q_0_5, q_0_6, q_0_7, q_0_8, q_0_9, i_0_10, p_0_10, i_0_11, p_0_11, i_0_12, p_0_12, t_1, q_1_0, t_3, q_3_0, q_3_1, i_3_2, p_3_2, i_3_3, p_3_3, t_80, q_80_0, t_88, q_88_0, t_90, q_90_0, t_92, q_92_0, q_92_1, q_92_2, i_92_3, p_92_3, i_92_4, p_92_4, t_96, q_96_0, i_96_1, p_96_1, i_96_2, p_96_2, i_96_3, p_96_3, t_100, q_100_0, i_100_1, p_100_1, i_100_2, p_100_2, i_100_3, p_100_3, t_104, q_104_1, q_104_2, q_104_3, q_104_4, q_104_5, q_104_6, q_104_8, q_104_9, q_104_11, q_104_12, q_104_18, q_104_21, q_104_22, q_104_23, q_104_24, q_104_26, q_104_27, q_104_28, q_104_30, q_104_31, i_104_0, p_104_0, i_104_7, p_104_7, i_104_10, p_104_10, i_104_13, p_104_13, i_104_14, p_104_14, i_104_15, p_104_15, i_104_16, p_104_16, i_104_17, p_104_17, i_104_19, p_104_19, i_104_20, p_104_20, i_104_25, p_104_25, i_104_29, p_104_29, a_2, w_2, a_81, w_81, a_89, w_89, a_91, w_91, a_93, w_93, a_94, w_94, a_95, w_95, a_105, w_105, a_106, w_106, a_107, w_107, a_108, w_108, a_109, w_109, a_110, w_110, a_111, w_111, a_112, w_112, a_113, w_113, a_114, w_114, a_115, w_115, a_116, w_116, a_117, w_117, a_118, w_118, a_119, w_119, a_120, w_120, a_121, w_121, a_122, w_122, a_123, w_123, a_124, w_124]
    · unfold PX11_lay
      simp (disch := omega) only [J_add, J_sub, J_mul, J_lt, J_le, J_eq, xbr_true, xbr_false, xbr_pos, xbr_neg, Int.toNat_natCast, all_eq, ex_eq, t_0, q_0_0, q_0_1, q_0_2, q_0_3, q_0_4, q_0_5, q_0_6, q_0_7, q_0_8, q_0_9, i_0_10, p_0_10, i_0_11, p_0_11, i_0_12, p_0_12, t_1, q_1_0, t_3, q_3_0, q_3_1, i_3_2, p_3_2, i_3_3, p_3_3, t_80, q_80_0, t_88, q_88_0, t_90, q_90_0, t_92, q_92_0, q_92_1, q_92_2, i_92_3, p_92_3, i_92_4, p_92_4, t_96, q_96_0, i_96_1, p_96_1, i_96_2, p_96_2, i_96_3, p_96_3, t_100, q_100_0, i_100_1, p_100_1, i_100_2, p_100_2, i_100_3, p_100_3, t_104, q_104_1, q_104_2, q_104_3, q_104_4, q_104_5, q_104_6, q_104_8, q_104_9, q_104_11, q_104_12, q_104_18, q_104_21, q_104_22, q_104_23, q_104_24, q_104_26, q_104_27, q_104_28, q_104_30, q_104_31, i_104_0, p_104_0, i_104_7, p_104_7, i_104_10, p_104_10, i_104_13, p_104_13, i_104_14, p_104_14, i_104_15, p_104_15, i_104_16, p_104_16, i_104_17, p_104_17, i_104_19, p_104_19, i_104_20, p_104_20, i_104_25, p_104_25, i_104_29, p_104_29, a_2, w_2, a_81, w_81, a_89, w_89, a_91, w_91, a_93, w_93, a_94, w_94, a_95, w_95, a_105, w_105, a_106, w_106, a_107, w_107, a_108, w_108, a_109, w_109, a_110, w_110, a_111, w_111, a_112, w_112, a_113, w_113, a_114, w_114, a_115, w_115, a_116, w_116, a_117, w_117, a_118, w_118, a_119, w_119, a_120, w_120, a_121, w_121, a_122, w_122, a_123, w_123, a_124, w_124, J_long, m_in, if_neg c]
end LAYF
