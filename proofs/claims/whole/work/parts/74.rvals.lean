/-! READING A TEXT: what the reference holds of a book then -/
section RVL
variable {z n m p : Nat} {g : Mem} {C C' : Nat → Nat → Int} {P : Nat → Int} {k1 k2 k3 w at0 fg fp : Int} {tx : Nat → Int}
/-- what comes of the end of a clause -/
def rEnd (z : Nat) (g : Mem) (C : Nat → Nat → Int) (m : Nat) (P : Nat → Int) (k1 k2 k3 w fg fp : Int) (tx : Nat → Int) (e : Nat) (K : Int32 → Mem → Prop) : Prop :=
  if tx e = 59 then (if tld (keyR (rM C m P k1 k2 k3 w 0 0 0)) m (keyR (rM C m P k1 k2 k3 w 0 0 0) m) = true then K (J 5) (lay z g (rM C m P k1 k2 k3 w (e : Nat) fg (e : Nat))) else K (J 0) (lay z g (up (rM C m P k1 k2 k3 w ((e + 1 : Nat) : Int) fg fp) 104 16 ((m + 1 : Nat) : Int)))) else K (J 1) (lay z g (rM C m P k1 k2 k3 w (e : Nat) fg (e : Nat)))
theorem m_wend {r : Nat} {b : Bool} (h : TxM C n tx) (h16 : C 104 16 = m) (hm : m < 24) (hr : r ≤ n) (hD : GDig C) (hP : POk P) (e5 : q5 tx n p = skp tx n r) (eW : hasW tx n p = true ↔ (b = true ∧ tx (skp tx n r) = 119)) :
    ((clW tx n p).1 ≠ 0 → FlM z g C m (clW tx n p).1 (clW tx n p).2 (fun K => JX11_takeBook_141 K (lay z g (rM C m P k1 k2 k3 2 (r : Nat) fg fp)) (ad z 104) (J 0) (J (if b then 1 else 0)))) ∧
    ((clW tx n p).1 = 0 → (∀ b, b ≤ m → RBk (rM C m P k1 k2 k3 (wW tx n p) 0 0 0) b) → q6 tx n p ≤ n ∧ ∀ K, JX11_takeBook_141 K (lay z g (rM C m P k1 k2 k3 2 (r : Nat) fg fp)) (ad z 104) (J 0) (J (if b then 1 else 0)) = rEnd z g C m P k1 k2 k3 (wW tx n p) fg fp tx (q6 tx n p) K) := by
  have ms := fun K => m_141 (z := z) (g := g) (P := P) (k1 := k1) (k2 := k2) (k3 := k3) (w := 2) (fg := fg) (fp := fp) (b := b) (K := K) h h16 hm hr
  have hs := skp_le (tx := tx) hr
  by_cases cW : hasW tx n p = true
  · have cw := eW.mp cW
    have l5 : skp tx n r < n := (h.b _).2.2 (by omega)
    by_cases c2 : 49 ≤ tx (q5 tx n p + 1) ∧ tx (q5 tx n p + 1) ≤ 57
    · have ec : clW tx n p = (0, 0) := by unfold clW; rw [if_pos cW, if_pos c2]
      have ew : wW tx n p = tx (q5 tx n p + 1) - 48 := by unfold wW; rw [if_pos cW]
      have eq : q6 tx n p = skp tx n (q5 tx n p + 2) := by unfold q6; rw [if_pos cW]
      have l6 : q5 tx n p + 1 < n := (h.b _).2.2 (by omega)
      rw [ec, ew, eq]
      refine ⟨fun q => absurd rfl q, fun _ hR => ⟨skp_le (by omega), fun K => ?_⟩⟩
      rw [ms, if_pos cw, ← e5, if_pos c2, m_163 h h16 hm (by omega) hR hD hP]
      rfl
    · have ec : clW tx n p = (1, q5 tx n p + 1) := by unfold clW; rw [if_pos cW, if_neg c2]
      rw [ec]
      refine ⟨fun _ => FlM.mk (k1 := k1) (k2 := k2) (k3 := k3) (w := 2) (at0 := ((q5 tx n p + 1 : Nat) : Int)) (fg := fg) (fp := ((q5 tx n p + 1 : Nat) : Int)) (fun _ => hP) rfl fun K => ?_, fun q => by simp at q⟩
      show JX11_takeBook_141 _ _ _ _ _ = _
      rw [ms, if_pos cw, ← e5, if_neg c2]
      rfl
  · have cw := fun q => cW (eW.mpr q)
    have ec : clW tx n p = (0, 0) := by unfold clW; rw [if_neg cW]
    have ew : wW tx n p = 2 := by unfold wW; rw [if_neg cW]
    have eq : q6 tx n p = skp tx n r := by unfold q6; rw [if_neg cW, e5]
    rw [ec, ew, eq]
    refine ⟨fun q => absurd rfl q, fun _ hR => ⟨hs, fun K => ?_⟩⟩
    rw [ms, if_neg cw, m_163 h h16 hm hs hR hD hP, skp_idem h hr]
    rfl
theorem m_tail (h : TxM C n tx) (h16 : C 104 16 = m) (hm : m < 24) (hp : p ≤ n) (hD : GDig C) (hP : POk P) :
    ((clY tx n p).1 ≠ 0 → FlM z g C m (clY tx n p).1 (clY tx n p).2 (fun K => JX11_takeBook_102 K (lay z g (rM C m (vup P 15 (-1)) k1 k2 k3 2 (p : Nat) fg fp)) (ad z 104) (J (16 * (m : Int))) (J 0) (J (if decide (tx p = 32) then 1 else 0)))) ∧
    ((clY tx n p).1 = 0 → (clW tx n p).1 ≠ 0 → FlM z g C m (clW tx n p).1 (clW tx n p).2 (fun K => JX11_takeBook_102 K (lay z g (rM C m (vup P 15 (-1)) k1 k2 k3 2 (p : Nat) fg fp)) (ad z 104) (J (16 * (m : Int))) (J 0) (J (if decide (tx p = 32) then 1 else 0)))) ∧
    ((clY tx n p).1 = 0 → (clW tx n p).1 = 0 → (∀ b, b ≤ m → RBk (rM C m (PY tx n p P) k1 k2 k3 (wW tx n p) 0 0 0) b) → q6 tx n p ≤ n ∧ ∀ K, JX11_takeBook_102 K (lay z g (rM C m (vup P 15 (-1)) k1 k2 k3 2 (p : Nat) fg fp)) (ad z 104) (J (16 * (m : Int))) (J 0) (J (if decide (tx p = 32) then 1 else 0)) = rEnd z g C m (PY tx n p P) k1 k2 k3 (wW tx n p) fg fp tx (q6 tx n p) K) := by
  obtain ⟨D0, hD0⟩ := h.c
  have ms := fun K => m_102 (z := z) (g := g) (P := vup P 15 (-1)) (k1 := k1) (k2 := k2) (k3 := k3) (w := 2) (fg := fg) (fp := fp) (b := decide (tx p = 32)) (K := K) h hm hp
  have hs := skp_le (tx := tx) hp
  have hP' : ∀ x, POk (vup P 15 x) := fun x => hP.v (by omega)
  have si := skp_iff h hp
  by_cases cY : hasY tx n p = true
  · have c0 : p < skp tx n p ∧ tx (skp tx n p) = 121 := by unfold hasY at cY; simpa using cY
    have cb : decide (tx p = 32) = true ∧ tx (skp tx n p) = 121 := ⟨decide_eq_true (si.mp c0.1), c0.2⟩
    have l5 : skp tx n p < n := (h.b _).2.2 (by omega)
    have f4 := fgN_le (tx := tx) (p := skp tx n p + 1)
    have fn := fgN_n hD0 (p := skp tx n p + 1) (by omega)
    have ePY : PY tx n p P = vup P 15 (yrT tx n p) := by unfold PY; rw [if_pos cY]
    rw [ePY]
    by_cases c1 : fgN tx (skp tx n p + 1) < 4
    · have ec : clY tx n p = (1, skp tx n p + 1 + fgN tx (skp tx n p + 1)) := by unfold clY; rw [if_pos cY, if_pos c1]
      rw [ec]
      refine ⟨fun _ => FlM.mk (k1 := k1) (k2 := k2) (k3 := k3) (w := 2) (at0 := ((skp tx n p + 1 + fgN tx (skp tx n p + 1) : Nat) : Int)) (fg := fg) (fp := ((skp tx n p + 1 + fgN tx (skp tx n p + 1) : Nat) : Int)) (fun _ => hP' (-1)) rfl fun K => ?_, fun q => by simp at q, fun q => by simp at q⟩
      show JX11_takeBook_102 _ _ _ _ _ _ = _
      rw [ms, if_pos cb, if_pos c1]
      rfl
    · by_cases c2 : 1000 ≤ yrT tx n p ∧ yrT tx n p ≤ 2999
      · have ec : clY tx n p = (0, 0) := by unfold clY; rw [if_pos cY, if_neg c1, if_pos c2]
        rw [ec]
        have l6 : skp tx n p + 5 ≤ n := by omega
        have s5 := skp_iff h l6
        have e5 : q5 tx n p = skp tx n (skp tx n p + 5) := by unfold q5; rw [if_pos cY]
        have eW : hasW tx n p = true ↔ (decide (tx (skp tx n p + 5) = 32) = true ∧ tx (skp tx n (skp tx n p + 5)) = 119) := by
          unfold hasW parT
          rw [if_pos cY, e5]
          simp [s5]
        obtain ⟨w1, w2⟩ := m_wend (z := z) (g := g) (k1 := k1) (k2 := k2) (k3 := k3) (fg := fg) (fp := fp) h h16 hm l6 hD (hP' (yrT tx n p)) e5 eW
        have X : ∀ K, JX11_takeBook_102 K (lay z g (rM C m (vup P 15 (-1)) k1 k2 k3 2 (p : Nat) fg fp)) (ad z 104) (J (16 * (m : Int))) (J 0) (J (if decide (tx p = 32) then 1 else 0)) = JX11_takeBook_141 K (lay z g (rM C m (vup P 15 (yrT tx n p)) k1 k2 k3 2 ((skp tx n p + 5 : Nat) : Int) fg fp)) (ad z 104) (J 0) (J (if decide (tx (skp tx n p + 5) = 32) then 1 else 0)) := fun K => by
          rw [ms, if_pos cb, if_neg c1, if_pos c2, vup_vup]
        simp only [X]
        exact ⟨fun q => absurd rfl q, fun _ => w1, fun _ => w2⟩
      · have ec : clY tx n p = (3, skp tx n p + 1) := by unfold clY; rw [if_pos cY, if_neg c1, if_neg c2]
        rw [ec]
        refine ⟨fun _ => FlM.mk (k1 := k1) (k2 := k2) (k3 := k3) (w := 2) (at0 := ((skp tx n p + 5 : Nat) : Int)) (fg := fg) (fp := ((skp tx n p + 1 : Nat) : Int)) (fun _ => hP' (yrT tx n p)) rfl fun K => ?_, fun q => by simp at q, fun q => by simp at q⟩
        show JX11_takeBook_102 _ _ _ _ _ _ = _
        rw [ms, if_pos cb, if_neg c1, if_neg c2, vup_vup]
        rfl
  · have cb : ¬ (decide (tx p = 32) = true ∧ tx (skp tx n p) = 121) := fun q => cY (by
      unfold hasY
      simp only [Bool.and_eq_true, decide_eq_true_eq]
      exact ⟨si.mpr (of_decide_eq_true q.1), q.2⟩)
    have ec : clY tx n p = (0, 0) := by unfold clY; rw [if_neg cY]
    have ePY : PY tx n p P = vup P 15 (-1) := by unfold PY; rw [if_neg cY]
    rw [ec, ePY]
    have e5 : q5 tx n p = skp tx n (skp tx n p) := by unfold q5; rw [if_neg cY, skp_idem h hp]
    have eW : hasW tx n p = true ↔ (decide (tx p = 32) = true ∧ tx (skp tx n (skp tx n p)) = 119) := by
      unfold hasW parT
      rw [if_neg cY, e5]
      simp [si]
    obtain ⟨w1, w2⟩ := m_wend (z := z) (g := g) (k1 := k1) (k2 := k2) (k3 := k3) (fg := fg) (fp := fp) h h16 hm hs hD (hP' (-1)) e5 eW
    have X : ∀ K, JX11_takeBook_102 K (lay z g (rM C m (vup P 15 (-1)) k1 k2 k3 2 (p : Nat) fg fp)) (ad z 104) (J (16 * (m : Int))) (J 0) (J (if decide (tx p = 32) then 1 else 0)) = JX11_takeBook_141 K (lay z g (rM C m (vup P 15 (-1)) k1 k2 k3 2 (skp tx n p : Nat) fg fp)) (ad z 104) (J 0) (J (if decide (tx p = 32) then 1 else 0)) := fun K => by
      rw [ms, if_neg cb]
    simp only [X]
    exact ⟨fun q => absurd rfl q, fun _ => w1, fun _ => w2⟩
/-- the reference's book b is the one that the text tells at p -/
def RefAt (C : Nat → Nat → Int) (tx : Nat → Int) (n b p : Nat) : Prop :=
  ptC C b 0 = tx p - 97 ∧ ptC C b 1 = (if isLt (tx (p + 1)) then tx (p + 1) - 97 else -1) ∧
  (∀ j, j < fgN tx (p1T tx p) → ptC C b (2 + j) = dgs tx (p1T tx p) j) ∧ C 106 b = (fgN tx (p1T tx p) : Nat) ∧
  C 107 b = kD tx (p2T tx p) ∧ (hasD tx (p2T tx p) = true → ∀ j, j < fgN tx (p2T tx p + 1) → ptC C b (6 + j) = dgs tx (p2T tx p + 1) j) ∧
  ptC C b 10 = (if tx (p3T tx p) = 46 then tx (p3T tx p + 1) - 97 else -1) ∧ C 108 b = kC tx (p3T tx p) ∧ (tx (p3T tx p) = 46 → ∀ j, j < fgN tx (p3T tx p + 2) → ptC C b (11 + j) = dgs tx (p3T tx p + 2) j) ∧
  ptC C b 15 = (if hasY tx n (p4T tx p) then yrT tx n (p4T tx p) else -1) ∧ C 109 b = wW tx n (p4T tx p)
theorem RefAt.fr {b : Nat} (h : RefAt C tx n b p) (e : ∀ j, j < 16 → C' 105 (16 * b + j) = C 105 (16 * b + j)) (e2 : ∀ a, 106 ≤ a → a ≤ 109 → C' a b = C a b) : RefAt C' tx n b p := by
  have f1 := fgN_le (tx := tx) (p := p1T tx p)
  have f2 := fgN_le (tx := tx) (p := p2T tx p + 1)
  have f3 := fgN_le (tx := tx) (p := p3T tx p + 2)
  unfold RefAt ptC at *
  rw [e2 106 (by omega) (by omega), e2 107 (by omega) (by omega), e2 108 (by omega) (by omega), e2 109 (by omega) (by omega), e 0 (by omega), e 1 (by omega), e 10 (by omega), e 15 (by omega)]
  obtain ⟨h1, h2, h3, h4, h5, h6, h7, h8, h9, h10, h11⟩ := h
  exact ⟨h1, h2, fun j hj => by rw [e _ (by omega)]; exact h3 j hj, h4, h5, fun c j hj => by rw [e _ (by omega)]; exact h6 c j hj, h7, h8, fun c j hj => by rw [e _ (by omega)]; exact h9 c j hj, h10, h11⟩
theorem PY_ne {i : Nat} (h : i ≠ 15) : PY tx n p P i = P i := by
  unfold PY vup
  split <;> simp [h]
theorem pdg_ne {f k i : Nat} (h : i < f ∨ f + k ≤ i) : pdg P tx f p k i = P i := by unfold pdg; rw [if_neg (by omega)]
theorem pdg_at {f k j : Nat} (h : j < k) : pdg P tx f p k (f + j) = dgs tx p j := by
  unfold pdg dgs; rw [if_pos (by omega), show f + j - f = j by omega]
theorem vup_ne {i j : Nat} {x : Int} (h : j ≠ i) : vup P i x j = P j := by unfold vup; rw [if_neg h]
theorem vup_eq {i : Nat} {x : Int} : vup P i x i = x := by unfold vup; rw [if_pos rfl]
theorem PC_ne {i : Nat} (h : i < 10 ∨ 15 ≤ i) : PC tx p P i = P i := by
  have f := fgN_le (tx := tx) (p := p + 2)
  unfold PC
  split
  · rw [pdg_ne (by omega), vup_ne (by omega)]
  · rfl
theorem PD_ne {i : Nat} (h : i < 6 ∨ 11 ≤ i) : PD tx p P i = P i := by
  have f := fgN_le (tx := tx) (p := p + 1)
  unfold PD
  split
  · rw [pdg_ne (by omega), vup_ne (by omega)]
  · rw [vup_ne (by omega)]
theorem PD_10 : PD tx p P 10 = -1 := by
  have f := fgN_le (tx := tx) (p := p + 1)
  unfold PD
  split
  · rw [pdg_ne (by omega), vup_eq]
  · rw [vup_eq]
theorem RefAt.r : RefAt (rM C m (PY tx n (p4T tx p) (PC tx (p3T tx p) (PD tx (p2T tx p) (PB tx (p1T tx p) (PA tx p P))))) (fgN tx (p1T tx p) : Nat) (kD tx (p2T tx p)) (kC tx (p3T tx p)) (wW tx n (p4T tx p)) at0 fg fp) tx n m p := by
  have f1 := fgN_le (tx := tx) (p := p1T tx p)
  have f2 := fgN_le (tx := tx) (p := p2T tx p + 1)
  have f3 := fgN_le (tx := tx) (p := p3T tx p + 2)
  unfold RefAt ptC
  rw [rM_k1, rM_k2, rM_k3, rM_w, rM_P (show 10 < 16 by omega), rM_P (show 15 < 16 by omega), rM_P (show 1 < 16 by omega), show rM C m (PY tx n (p4T tx p) (PC tx (p3T tx p) (PD tx (p2T tx p) (PB tx (p1T tx p) (PA tx p P))))) (fgN tx (p1T tx p) : Nat) (kD tx (p2T tx p)) (kC tx (p3T tx p)) (wW tx n (p4T tx p)) at0 fg fp 105 (16 * m + 0) = _ from rM_P (show 0 < 16 by omega)]
  refine ⟨?_, ?_, fun j hj => ?_, rfl, rfl, fun c j hj => ?_, ?_, rfl, fun c j hj => ?_, ?_, rfl⟩
  · rw [PY_ne (by omega), PC_ne (by omega), PD_ne (by omega)]
    unfold PB PA
    rw [pdg_ne (by omega), vup_ne (by omega), vup_eq]
  · rw [PY_ne (by omega), PC_ne (by omega), PD_ne (by omega)]
    unfold PB PA
    rw [pdg_ne (by omega), vup_eq]
  · rw [rM_P (by omega), PY_ne (by omega), PC_ne (by omega), PD_ne (by omega)]
    unfold PB
    exact pdg_at hj
  · rw [rM_P (by omega), PY_ne (by omega), PC_ne (by omega)]
    unfold PD
    rw [if_pos c]
    exact pdg_at hj
  · rw [PY_ne (by omega)]
    unfold PC
    split
    · rw [pdg_ne (by omega), vup_eq]
    · exact PD_10
  · rw [rM_P (by omega), PY_ne (by omega)]
    unfold PC
    rw [if_pos c]
    exact pdg_at hj
  · unfold PY
    split
    · exact vup_eq
    · exact vup_eq
theorem RefAt.key {b : Nat} (h : RefAt C tx n b p) : keyR C b = knT tx n p := by
  obtain ⟨h0, h1, h2, hk1, hk2, h6, h10, hk3, h11, h15, -⟩ := h
  funext i
  unfold keyR knT
  by_cases c0 : i = 0
  · rw [if_pos c0, if_pos c0, h0, h1]
    split <;> omega
  · rw [if_neg c0, if_neg c0]
    by_cases c1 : i = 1
    · rw [if_pos c1, if_pos c1, hk1, Int.toNat_natCast]
      exact wh_congr fun j hj => h2 j hj
    · rw [if_neg c1, if_neg c1]
      by_cases c2 : i = 2
      · rw [if_pos c2, if_pos c2, hk2]
        unfold kD
        by_cases c : hasD tx (p2T tx p) = true
        · rw [if_pos c, if_pos c, Int.toNat_natCast]
          exact fil_congr fun j hj => h6 c j hj
        · rw [if_neg c, if_neg c]; rfl
      · rw [if_neg c2, if_neg c2]
        by_cases c3 : i = 3
        · rw [if_pos c3, if_pos c3, hk3, h10]
          unfold kC
          by_cases c : tx (p3T tx p) = 46
          · rw [if_pos c, if_pos c, if_pos c, Int.toNat_natCast]
            have e : filD (fun j => ptC C b (11 + j)) (fgN tx (p3T tx p + 2)) = filD (dgs tx (p3T tx p + 2)) (fgN tx (p3T tx p + 2)) := fil_congr fun j hj => h11 c j hj
            rw [e]
            omega
          · rw [if_neg c, if_neg c, if_neg c]; rfl
        · rw [if_neg c3, if_neg c3, h15]
end RVL
