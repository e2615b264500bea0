/-! READING A TEXT: what both do -/
section OPB
variable {z n m p nb nb' : Nat} {g : Mem} {C C' : Nat → Nat → Int} {A : Rw} {tx : Nat → Int}
theorem pt_at {b : Nat} (e : ∀ j, j < 16 → C' 105 (16 * b + j) = C 105 (16 * b + j)) {j : Nat} (hj : j < 16) : ptC C' b j = ptC C b j := e j hj
theorem BkRel_at {b : Nat} (h : BkRel C b) (e0 : C' (8 + 3 * b) = C (8 + 3 * b)) (e : ∀ j, j < 16 → C' 105 (16 * b + j) = C 105 (16 * b + j)) (e2 : ∀ a, 106 ≤ a → a ≤ 109 → C' a b = C a b) : BkRel C' b := by
  obtain ⟨a1, a2, a3, a4, a5, a6, a7, a8, a9, a10, h1, h2, h3, h4, h5, h6, h7, h8, h9, h10, h11⟩ := h
  have q : ∀ j, j < 16 → ptC C' b j = ptC C b j := fun j hj => e j hj
  have f6 := e2 106 (by omega) (by omega)
  have f7 := e2 107 (by omega) (by omega)
  have f8 := e2 108 (by omega) (by omega)
  have f9 := e2 109 (by omega) (by omega)
  have w2 : wholeD (fun j => ptC C' b (2 + j)) (C 106 b).toNat = wholeD (fun j => ptC C b (2 + j)) (C 106 b).toNat := wh_congr fun j hj => q _ (by omega)
  have w6 : wholeD (fun j => ptC C' b (6 + j)) (C 107 b).toNat = wholeD (fun j => ptC C b (6 + j)) (C 107 b).toNat := wh_congr fun j hj => q _ (by omega)
  have w11 : wholeD (fun j => ptC C' b (11 + j)) (C 108 b).toNat = wholeD (fun j => ptC C b (11 + j)) (C 108 b).toNat := wh_congr fun j hj => q _ (by omega)
  have l2 : filD (fun j => ptC C' b (2 + j)) (C 106 b).toNat = filD (fun j => ptC C b (2 + j)) (C 106 b).toNat := fil_congr fun j hj => q _ (by omega)
  have l6 : filD (fun j => ptC C' b (6 + j)) (C 107 b).toNat = filD (fun j => ptC C b (6 + j)) (C 107 b).toNat := fil_congr fun j hj => q _ (by omega)
  have l11 : filD (fun j => ptC C' b (11 + j)) (C 108 b).toNat = filD (fun j => ptC C b (11 + j)) (C 108 b).toNat := fil_congr fun j hj => q _ (by omega)
  unfold BkRel
  rw [e0, f6, f7, f8, f9, w2, w6, w11, l2, l6, l11, q 0 (by omega), q 1 (by omega), q 10 (by omega), q 15 (by omega)]
  exact ⟨a1, a2, fun j j1 j2 => by rw [q j (by omega)]; exact a3 j j1 j2, a4, fun j j1 j2 => by rw [q j (by omega)]; exact a5 j j1 j2, a6, a7, a8, a9, a10, h1, h2, h3, h4, h5, h6, h7, h8, h9, h10, h11⟩
theorem mkA_at {b : Nat} (h : BkRel C b) (e : ∀ j, j < 16 → C' 105 (16 * b + j) = C 105 (16 * b + j)) (e2 : ∀ a, 106 ≤ a → a ≤ 109 → C' a b = C a b) : mkA C' b = mkA C b := by
  have a7 := h.2.2.2.2.2.2.1
  have a8 := h.2.2.2.2.2.2.2.1
  have a9 := h.2.2.2.2.2.2.2.2.1
  have q : ∀ j, j < 16 → ptC C' b j = ptC C b j := fun j hj => e j hj
  have f6 := e2 106 (by omega) (by omega)
  have f7 := e2 107 (by omega) (by omega)
  have f8 := e2 108 (by omega) (by omega)
  have m2 : (List.range (C 106 b).toNat).map (fun j => 48 + ptC C' b (2 + j)) = (List.range (C 106 b).toNat).map (fun j => 48 + ptC C b (2 + j)) := List.map_congr_left fun j hj => by
    have := List.mem_range.mp hj
    rw [q _ (by omega)]
  have m6 : (List.range (C 107 b).toNat).map (fun j => 48 + ptC C' b (6 + j)) = (List.range (C 107 b).toNat).map (fun j => 48 + ptC C b (6 + j)) := List.map_congr_left fun j hj => by
    have := List.mem_range.mp hj
    rw [q _ (by omega)]
  have m11 : (List.range (C 108 b).toNat).map (fun j => 48 + ptC C' b (11 + j)) = (List.range (C 108 b).toNat).map (fun j => 48 + ptC C b (11 + j)) := List.map_congr_left fun j hj => by
    have := List.mem_range.mp hj
    rw [q _ (by omega)]
  unfold mkA
  rw [f6, f7, f8, m2, m6, m11, q 0 (by omega), q 1 (by omega), q 10 (by omega), q 15 (by omega)]
theorem RwOk.mono (h : RwOk A nb) (l : nb ≤ nb') : RwOk A nb' := ⟨fun i hi => Nat.lt_of_lt_of_le (h.1 i hi) l, h.2.1, h.2.2⟩
theorem pow_mono (l : nb ≤ nb') : (2 : Int) ^ nb ≤ (2 : Int) ^ nb' := by
  have h := Nat.pow_le_pow_right (n := 2) (by decide) l
  have a : ((2 : Int) ^ nb) = ((2 ^ nb : Nat) : Int) := by simp
  have b : ((2 : Int) ^ nb') = ((2 ^ nb' : Nat) : Int) := by simp
  rw [a, b]
  omega
theorem GImg.mono {i : Nat} (h : GImg C nb i) (l : nb ≤ nb') : GImg C nb' i := by
  obtain ⟨h1, h2⟩ := h
  have pm := pow_mono l
  refine ⟨h1, ?_⟩
  rcases h2 with h2 | ⟨h2, A', h3, h4, h5, h6, h7⟩
  · exact Or.inl h2
  · exact Or.inr ⟨h2, A', h3, h4.mono l, h5, ⟨h6.1, h6.2.1, Int.lt_of_lt_of_le h6.2.2 pm⟩, h7⟩
theorem op_books (h : Inv C nb A) (hz : z + 125 ≤ g.2.2) : ∃ (r : Int) (C1 C2 : Nat → Nat → Int) (g' : Mem) (nb' : Nat), (∀ K, PX10_books (ad z 0) (lay z g C) K = K (J r) (lay z g' C1)) ∧ (∀ K, PX11_books (ad z 104) (lay z g' C1) K = K (J r) (lay z g' C2)) ∧ z + 125 ≤ g'.2.2 ∧ Inv C2 nb' A := by
  obtain ⟨t1, t2, t3, t4, t5, t6, t7, t8, t9, t10, t11⟩ := h
  obtain ⟨⟨u1, u2⟩, u3, u4⟩ := t1
  obtain ⟨g1, g2, g3, g4, g5, g6, g7, g8, g9⟩ := t2
  obtain ⟨n, en⟩ : ∃ n : Nat, C 1 1 = n := ⟨(C 1 1).toNat, by omega⟩
  obtain ⟨tx, etx⟩ : ∃ tx : Nat → Int, tx = fun p => if p < n then C 2 p else -1 := ⟨_, rfl⟩
  have tin : ∀ p, p < n → C 2 p = tx p ∧ 0 ≤ tx p ∧ tx p ≤ 255 := fun p hp => by
    have := (u4 p (by omega)).2
    have e : tx p = C 2 p := by rw [etx]; exact if_pos hp
    rw [e]; exact ⟨rfl, this⟩
  have tout : ∀ p, n ≤ p → tx p = -1 := fun p hp => by rw [etx]; exact if_neg (by omega)
  have hx : TxC C n tx := ⟨en, by omega, tin, tout⟩
  have hm : TxM C n tx := ⟨by rw [u3]; exact en, by omega, fun p hp => ⟨by rw [(u4 p (by omega)).1]; exact (tin p hp).1, (tin p hp).2⟩, tout⟩
  obtain ⟨R, hR⟩ : ∃ R, R = rnT tx n n (skp tx n 0) nb (keyR C) (fun _ => 0) := ⟨_, rfl⟩
  obtain ⟨C1, g', a1, a2, a3, a4, a5, a6, a7, a8, a9, a10, a11, a12⟩ := s_books (g := g) hz hx g5 g2 g3 g1 (κ := keyR C) (fun b hb i hi => (g6 b hb).key hi) hR
  have hi : ∀ o, 80 ≤ o → C1 o = C o := fun o ho => a3 o (by omega) (by omega) (by omega) (Or.inr (by omega))
  obtain ⟨C2, b1, b2, b3, b4, b5, b6, b7, b8, b9, b10⟩ := m_books (z := z) (g := g') (hm.fr (by rw [hi 104 (by omega)]) (hi 114 (by omega))) (g8.fr (hi 105 (by omega))) (by rw [hi 104 (by omega)]; exact g4) g1 (fun b hb => RBk_fr (fun a q1 q2 => hi a (by omega)) ((g6 b hb).rbk (g9 b hb))) (κ := keyR C) (fun b hb => keyR_fr (fun a q1 q2 => hi a (by omega))) hR
  have ok := (rnT_ok (tx := tx) (n := n) n (skp tx n 0) nb (keyR C) (fun _ => 0)).2
  rw [← hR] at ok
  obtain ⟨nb', hnb⟩ : ∃ nb', nb' = (if R.1 = 0 then R.2.2.1 else nb) := ⟨_, rfl⟩
  have le : nb ≤ nb' := by rw [hnb]; split <;> omega
  have le24 : nb' ≤ 24 := by rw [hnb]; split <;> omega
  have low : ∀ o, o < 104 → C2 o = C1 o := fun o ho => b2 o (Or.inl ho)
  have cls : ∀ o, 5 ≤ o → o < 8 + 3 * nb → C2 o = C o := fun o h1 h2 => by rw [low o (by omega), a3 o (by omega) (by omega) (by omega) (Or.inl h2)]
  have mid : ∀ o, 80 ≤ o → o < 104 → C2 o = C o := fun o h1 h2 => by rw [low o h2, hi o h1]
  have far : ∀ o, 109 < o → C2 o = C o := fun o h1 => by rw [b2 o (Or.inr h1), hi o (by omega)]
  have m104 : ∀ j, j ≠ 0 → j ≠ 13 → j ≠ 14 → j ≠ 15 → j ≠ 16 → j ≠ 17 → C2 104 j = C 104 j := fun j q1 q2 q3 q4 q5 q6 => by rw [b3 j q1 q2 q3 q4 q5 q6, hi 104 (by omega)]
  have bk : ∀ b, b < nb' → BkRel C2 b ∧ Ltr C2 b ∧ 1 ≤ ptC C2 b 2 := fun b hb => by
    rcases Nat.lt_or_ge b nb with q | q
    · have e : ∀ j, j < 16 → C2 105 (16 * b + j) = C 105 (16 * b + j) := fun j hj => by rw [b4 b j q hj, hi 105 (by omega)]
      have e2 : ∀ a, 106 ≤ a → a ≤ 109 → C2 a b = C a b := fun a h1 h2 => by rw [b5 a b h1 h2 q, hi a (by omega)]
      refine ⟨BkRel_at (g6 b q) (cls _ (by omega) (by omega)) e e2, ?_, ?_⟩
      · have l := g7 b q
        unfold Ltr at l ⊢
        rw [mkA_at (g6 b q) e e2, cls (9 + 3 * b) (by omega) (by omega), cls (10 + 3 * b) (by omega) (by omega)]
        exact l
      · rw [pt_at e (show 2 < 16 by omega)]; exact g9 b q
    · have c : R.1 = 0 := by
        by_cases c : R.1 = 0
        · exact c
        · rw [if_neg c] at hnb; omega
      rw [if_pos c] at hnb
      obtain ⟨v1, v2⟩ := b10 c b q (by omega)
      have v3 := (a12 c b q (by omega)).fr (C' := C2) (fun j hj => low _ (by omega))
      obtain ⟨full, v4⟩ := ok c b q (by omega)
      obtain ⟨w1, w2, w3⟩ := clF_ok v4
      exact ⟨relNew v3 v1 v2 b6 (by omega) w3, ltrNew v3 (sT_eq v1 w1 w2 v2.1.1), v2.2.2.2.2.2.2.2⟩
  have i82 : ∀ a, 82 ≤ a → a ≤ 84 → C2 a = C a := fun a h1 h2 => mid a (by omega) (by omega)
  have gr := t7.fr i82 (m104 7 (by omega) (by omega) (by omega) (by omega) (by omega) (by omega)) (far 111 (by omega)) (far 112 (by omega))
  have gi : ∀ i, i < 2 → GImg C nb i → GImg C2 nb' i := fun i hi2 q => (q.fr (mid _ (by omega) (by omega)) (fun a h1 h2 => mid a (by omega) (by omega)) (far 123 (by omega)) (far 124 (by omega))).mono le
  refine ⟨_, C1, C2, g', nb', a1, b1, by omega, ⟨⟨by rw [low 1 (by omega), a6]; omega, ?_⟩, ?_, ?_⟩, ⟨le24, ?_, ?_, ?_, ?_, fun b hb => (bk b hb).1, fun b hb => (bk b hb).2.1, b6, fun b hb => (bk b hb).2.2⟩, ?_, ⟨?_, ?_⟩, ⟨?_, ?_⟩, ?_, ⟨gr.1, gr.2.1, gr.2.2.mono le⟩, ?_, ?_, gi 0 (by omega) t10, gi 1 (by omega) t11⟩
  · rw [low 1 (by omega), a6]; omega
  · rw [b8, low 1 (by omega), a6]
  · intro i hi3
    rw [low 1 (by omega), a6] at hi3
    omega
  · rw [low 3 (by omega), a8, hnb]
  · rw [low 3 (by omega), a9, hnb]
  · rw [b9, hnb]
  · exact a7.fr (fun o h1 h2 => low o (by omega))
  · unfold GFault
    rw [b7, low 0 (by omega), a5]
  · rw [m104 10 (by omega) (by omega) (by omega) (by omega) (by omega) (by omega), low 0 (by omega), a4 11 (by omega)]; exact t4.1
  · rw [low 0 (by omega), a4 11 (by omega)]
    exact ⟨t4.2.1, Int.lt_of_lt_of_le t4.2.2 (pow_mono le)⟩
  · rw [m104 29 (by omega) (by omega) (by omega) (by omega) (by omega) (by omega), low 0 (by omega), a4 12 (by omega)]; exact t5.1
  · rw [low 0 (by omega), a4 12 (by omega)]; exact t5.2
  · exact t6.fr (mid 81 (by omega) (by omega)) (far 110 (by omega))
  · exact t8.fr (mid 85 (by omega) (by omega)) (mid 86 (by omega) (by omega)) (mid 87 (by omega) (by omega))
  · exact t9.fr (mid 91 (by omega) (by omega)) (far 113 (by omega))
end OPB
