/-! THE SCRIPT to its end -/
section SCP
variable {z Ln b nb ck cn : Nat} {g : Mem} {C : Nat → Nat → Int} {A : Rw} {xs : Nat → Int32} {K : Int32 → Prop}
theorem sI_l {n : Nat} {K : Int32 → Prop} (h : n < Ln) (hl : Ln ≤ 2048) {x : Int} (e : x = (n : Nat)) : sI xs Ln (J x) K = K (xs n) := by
  unfold sI
  rw [e, vp_J (by omega) (by omega), J_nat (by omega) (by omega), all_eq]
  have : (0 ≤ (n : Int) ∧ (n : Int) < Ln) = True := eq_true ⟨by omega, by omega⟩
  rw [this, true_and]
  rfl
theorem law_loop (hl : Ln ≤ 2048) : ∀ (d i : Nat) (C : Nat → Nat → Int) (g : Mem) (nb : Nat) (A : Rw) (ck cn : Nat), Inv C nb A → z + 125 ≤ g.2.2 → ck ≤ 149 + i → cn ≤ 42829 + 8 * i → i ≤ 512 → Ln ≤ 4 * i + d → lp (BL_law_18 xs Ln b K (ad z 0) (ad z 104)) (lay z g C, ck, cn, J ((4 * i : Nat) : Int)) := by
  have stop : ∀ (i : Nat) (C : Nat → Nat → Int) (g : Mem) (ck cn : Nat), ck ≤ 149 + i → cn ≤ 42829 + 8 * i → i ≤ 512 → Ln < 4 * i + 4 → lp (BL_law_18 xs Ln b K (ad z 0) (ad z 104)) (lay z g C, ck, cn, J ((4 * i : Nat) : Int)) := by
    intro i C g ck cn h1 h2 h3 h4
    have e : lp (BL_law_18 xs Ln b K (ad z 0) (ad z 104)) (lay z g C, ck, cn, J ((4 * i : Nat) : Int)) = True := lp_last fun kc => by
      show CL_law_18 xs Ln b K (ad z 0) (ad z 104) kc (lay z g C) ck cn (J ((4 * i : Nat) : Int)) = True
      unfold CL_law_18
      have hx : Int32.ofNat Ln - J 4 < J ((4 * i : Nat) : Int) := by
        rw [J_ofNat, J_sub, J_lt (by omega) (by omega) (by omega) (by omega)]
        omega
      rw [xbr_pos hx]
      exact eq_true ⟨by omega, by omega⟩
    rw [e]; trivial
  intro d
  induction d with
  | zero =>
    intro i C g nb A ck cn h hz h1 h2 h3 h4
    exact stop i C g ck cn h1 h2 h3 (by omega)
  | succ d ih =>
    intro i C g nb A ck cn h hz h1 h2 h3 h4
    rcases Nat.lt_or_ge Ln (4 * i + 4) with q | q
    · exact stop i C g ck cn h1 h2 h3 q
    · have hx : ¬ (Int32.ofNat Ln - J 4 < J ((4 * i : Nat) : Int)) := by
        rw [J_ofNat, J_sub, J_lt (by omega) (by omega) (by omega) (by omega)]
        omega
      have s0 : ∀ K, sI xs Ln (J ((4 * i : Nat) : Int)) K = K (xs (4 * i)) := fun K => sI_l (by omega) hl rfl
      have hs : SCR xs Ln ck cn ((4 * i : Nat) : Int) (xs (4 * i + 1)).toInt (xs (4 * i + 2)).toInt (xs (4 * i + 3)).toInt := by
        refine ⟨fun K => ?_, fun K => ?_, fun K => ?_, J_range _, J_range _, J_range _, eq_true ⟨by omega, by omega⟩, eq_true ⟨by omega, by omega⟩, ?_⟩
        · rw [J_add, sI_l (n := 4 * i + 1) (by omega) hl (by omega), J_of]
        · rw [J_add, sI_l (n := 4 * i + 2) (by omega) hl (by omega), J_of]
        · rw [J_add, sI_l (n := 4 * i + 3) (by omega) hl (by omega), J_of]
        · rw [J_add]
      obtain ⟨C', g', nb', A', ck', cn', h', hz', l1, l2, e⟩ := law_step (b := b) (K := K) h hz hs s0 hx
      have st : lp (BL_law_18 xs Ln b K (ad z 0) (ad z 104)) (lay z g C, ck, cn, J ((4 * i : Nat) : Int)) = lp (BL_law_18 xs Ln b K (ad z 0) (ad z 104)) (lay z g' C', ck', cn', J ((4 * (i + 1) : Nat) : Int)) := lp_step fun kc => by
        have e4 : ((4 * i : Nat) : Int) + 4 = ((4 * (i + 1) : Nat) : Int) := by omega
        have e' := e kc
        rw [e4] at e'
        exact e'
      rw [st]
      exact ih (i + 1) C' g' nb' A' ck' cn' h' hz' (by omega) (by omega) (by omega) (by omega)
theorem law_of {xs : Nat → Int32} (hl : Ln ≤ 2048) (h : Inv C nb A) (hz : z + 125 ≤ g.2.2) {M : Mem} (hI : ∀ K2 : Nat → Nat → Mem → Prop, (nO M 11 13 tyX10 fun q1 M2 => PX10_init q1 M2 fun M4 => nO M4 12 32 tyX11 fun q5 M6 => PX11_init q5 M6 fun M8 => K2 q1 q5 M8) = K2 (ad z 0) (ad z 104) (lay z g C)) : PL_law xs Ln b M K := by
  unfold PL_law
  have e := hI (fun q1 q5 M8 => lp (BL_law_18 xs Ln b K q1 q5) (M8, 0 + 1 + 127 + 1 + 20, 0 + 13 + 29784 + 32 + 13000, (J 0)))
  have l := law_loop (xs := xs) (b := b) (K := K) hl Ln 0 C g nb A 149 42829 h hz (by omega) (by omega) (by omega) (by omega)
  exact e ▸ l
end SCP
