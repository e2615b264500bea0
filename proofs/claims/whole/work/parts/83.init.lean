/-! BUILT ANEW: memory after both constructors -/
def fF (z : Nat) (o k : Nat) : Value := match rf o k with | some r => .ref (ad z r) | none => if nl o k then .null else .int (J (C0 o k))
/-- memory while both are built: n objects are there, with the values V -/
def pl (z n : Nat) (V : Nat → Nat → Value) : Mem := (fun a => if z ≤ a ∧ a < z + n then kd (a - z) else (0, 0), fun a k => if z ≤ a ∧ a < z + n then V (a - z) k else .null, z + n)
def rc (o : Nat) (U : Nat → Value) (V : Nat → Nat → Value) : Nat → Nat → Value := fun a => if a = o then U else V a
def us (U : Nat → Value) (k : Nat) (v : Value) : Nat → Value := fun j => if j = k then v else U j
section INI
variable {z n o t N a b : Nat} {U W : Nat → Value} {V : Nat → Nat → Value}
theorem rc_at : rc o U V o = U := if_pos rfl
theorem rc_ne (h : a ≠ o) : rc o U V a = V a := if_neg h
theorem rc_rc : rc o U (rc o W V) = rc o U V := by
  funext x; unfold rc; split <;> rfl
theorem rc_comm (h : a ≠ b) : rc a U (rc b W V) = rc b W (rc a U V) := by
  funext x
  unfold rc
  by_cases c : x = a
  · rw [if_pos c, if_neg (by omega), if_pos c]
  · rw [if_neg c]
    by_cases c2 : x = b
    · rw [if_pos c2, if_pos c2]
    · rw [if_neg c2, if_neg c2, if_neg c]
theorem rc_self (h : V o = U) : rc o U V = V := by
  funext x; unfold rc
  by_cases c : x = o
  · rw [if_pos c, c]; exact h.symm
  · rw [if_neg c]
theorem pl_0 : xM0 z = pl z 0 V := by
  refine Prod.ext (funext fun a => ?_) (Prod.ext (funext fun a => funext fun k => ?_) rfl)
  · show _ = if z ≤ a ∧ a < z + 0 then _ else _
    rw [if_neg (by omega)]; rfl
  · show _ = if z ≤ a ∧ a < z + 0 then _ else _
    rw [if_neg (by omega)]; rfl
theorem pl_full : pl z 125 (fF z) = lay z (fun _ => (0, 0), fun _ _ => .null, z + 125) C0 := rfl
theorem pl_new {dv : Nat → Value} (h : kd n = (t, N)) : xnew (pl z n V) t N dv = pl z (n + 1) (rc n dv V) := by
  refine Prod.ext (funext fun b => ?_) (Prod.ext (funext fun b => funext fun j => ?_) rfl)
  · show (if b = z + n then (t, N) else if z ≤ b ∧ b < z + n then kd (b - z) else (0, 0)) = if z ≤ b ∧ b < z + (n + 1) then kd (b - z) else (0, 0)
    by_cases c : b = z + n
    · rw [if_pos c, if_pos (by omega), show b - z = n by omega, h]
    · rw [if_neg c]
      by_cases c2 : z ≤ b ∧ b < z + n
      · rw [if_pos c2, if_pos (by omega)]
      · rw [if_neg c2, if_neg (by omega)]
  · show (if b = z + n then dv j else if z ≤ b ∧ b < z + n then V (b - z) j else .null) = if z ≤ b ∧ b < z + (n + 1) then rc n dv V (b - z) j else .null
    by_cases c : b = z + n
    · rw [if_pos c, if_pos (by omega), show b - z = n by omega, rc_at]
    · rw [if_neg c]
      by_cases c2 : z ≤ b ∧ b < z + n
      · rw [if_pos c2, if_pos (by omega), rc_ne (by omega)]
      · rw [if_neg c2, if_neg (by omega)]
theorem pl_set {k : Nat} {v : Value} (ho : o < n) : xset (pl z n (rc o U V)) (ad z o) k v = pl z n (rc o (us U k v) V) := by
  refine Prod.ext rfl (Prod.ext (funext fun b => funext fun j => ?_) rfl)
  show (if b = z + o ∧ j = k then v else if z ≤ b ∧ b < z + n then rc o U V (b - z) j else .null) = if z ≤ b ∧ b < z + n then rc o (us U k v) V (b - z) j else .null
  by_cases c : b = z + o
  · rw [if_pos (show z ≤ b ∧ b < z + n by omega), if_pos (show z ≤ b ∧ b < z + n by omega), show b - z = o by omega, rc_at, rc_at]
    unfold us
    by_cases c2 : j = k
    · rw [if_pos ⟨c, c2⟩, if_pos c2]
    · rw [if_neg (fun q => c2 q.2), if_neg c2]
  · rw [if_neg (fun q => c q.1)]
    by_cases c2 : z ≤ b ∧ b < z + n
    · rw [if_pos c2, if_pos c2, rc_ne (by omega), rc_ne (by omega)]
    · rw [if_neg c2, if_neg c2]
theorem pl_ty (ho : o < n) : (pl z n V).1 (ad z o) = kd o := by
  show (if z ≤ z + o ∧ z + o < z + n then kd (z + o - z) else (0, 0)) = _
  rw [if_pos (by omega), show z + o - z = o by omega]
theorem pl_val {k : Nat} (ho : o < n) : (pl z n V).2.1 (ad z o) k = V o k := by
  show (if z ≤ z + o ∧ z + o < z + n then V (z + o - z) k else .null) = _
  rw [if_pos (by omega), show z + o - z = o by omega]
theorem pl_nO {ty : Nat → FieldType} {K : Nat → Mem → Prop} (h : kd n = (t, N)) : nO (pl z n V) t N ty K = K (ad z n) (pl z (n + 1) (rc n (fun j => defaultValue (ty j)) V)) := by
  unfold nO
  rw [← pl_new h]
  exact propext ⟨fun q => q _ _ rfl rfl, fun q a b e1 e2 => by rw [e1, e2]; exact q⟩
theorem pl_nA {dv : Value} {N' : Nat} {K : Nat → Mem → Prop} {x : Int32} (h : kd n = (t, N)) (hx : x = J N) (hN : N ≤ N') (h1 : N ≤ 1000) : nA (pl z n V) t dv x N' K = K (ad z n) (pl z (n + 1) (rc n (fun _ => dv) V)) := by
  unfold nA
  have e : (J (N : Nat)).toNatClampNeg = N := by rw [J_nat (by omega) (by omega)]; rfl
  have e0 : ¬ (J (N : Nat)) < 0 := by
    rw [J0, J_lt (by omega) (by omega) (by omega) (by omega)]; omega
  rw [hx, e, ← pl_new h]
  exact propext ⟨fun q => q.2.2 _ _ rfl rfl, fun q => ⟨e0, hN, fun a b e1 e2 => by rw [e1, e2]; exact q⟩⟩
theorem pl_tS {K : Prop} (ho : o < n) (h : (kd o).1 = t) : tS (pl z n V) t (ad z o) K = K := by
  unfold tS
  rw [pl_ty ho, h]
  exact propext ⟨fun q => q.2, fun q => ⟨rfl, q⟩⟩
theorem pl_pF {k : Nat} {v : Value} {K : Mem → Prop} (ho : o < n) (h : (kd o).1 = t) : pF (pl z n (rc o U V)) t (ad z o) k v K = K (pl z n (rc o (us U k v) V)) := by
  unfold pF
  rw [pl_ty ho, h, pl_set ho]
  exact propext ⟨fun q => q.2 _ rfl, fun q => ⟨rfl, fun M e => by rw [e]; exact q⟩⟩
theorem pl_gR {k r : Nat} {K : Nat → Prop} (ho : o < n) (h : (kd o).1 = t) (hv : V o k = .ref r) : gR (pl z n V) t (ad z o) k K = K r := by
  unfold gR
  rw [pl_ty ho, h, pl_val ho, hv]
  exact propext ⟨fun q => by obtain ⟨-, v, e, q⟩ := q; cases e; exact q, fun q => ⟨rfl, _, rfl, q⟩⟩
theorem pl_aL {K : Int32 → Prop} (ho : o < n) (h : kd o = (t, N)) : aL (pl z n V) t (ad z o) K = K (J N) := by
  unfold aL
  rw [pl_ty ho, h, all_eq, J_ofNat]
  exact propext ⟨fun q => q.2, fun q => ⟨rfl, q⟩⟩
theorem pl_aS {K : Mem → Prop} {i : Nat} {v : Int32} (ho : o < n) (h : kd o = (100, N)) (hi : i < N) (h1 : N ≤ 1000) : aS (pl z n (rc o U V)) (ad z o) (J (i : Nat)) v K = K (pl z n (rc o (us U i (.int v)) V)) := by
  unfold aS
  have hv : vp_in (J (i : Nat)) N = True := by rw [vp_J (by omega) (by omega)]; exact eq_true ⟨by omega, by omega⟩
  have e : (J (i : Nat)).toNatClampNeg = i := by rw [J_nat (by omega) (by omega)]; rfl
  rw [pl_ty ho, h, e, pl_set ho]
  exact propext ⟨fun q => q.2.2 _ rfl, fun q => ⟨rfl, hv ▸ trivial, fun M e => by rw [e]; exact q⟩⟩
theorem pl_aP {K : Mem → Prop} {i r : Nat} (ho : o < n) (h : kd o = (102, 24)) (hi : i < 24) (hr : r < n) (h2 : (kd r).1 = 1) : aP (pl z n (rc o U V)) (ad z o) (J (i : Nat)) (ad z r) K = K (pl z n (rc o (us U i (.ref (ad z r))) V)) := by
  unfold aP
  have hv : vp_in (J (i : Nat)) 24 = True := by rw [vp_J (by omega) (by omega)]; exact eq_true ⟨by omega, by omega⟩
  have e : (J (i : Nat)).toNatClampNeg = i := by rw [J_nat (by omega) (by omega)]; rfl
  rw [pl_ty ho, pl_ty hr, h, h2, e, pl_set ho]
  exact propext ⟨fun q => q.2.2.2 _ rfl, fun q => ⟨rfl, hv ▸ trivial, rfl, fun M e => by rw [e]; exact q⟩⟩
theorem pl_write {K : Mem → Prop} {i : Nat} {v : Int32} (ho : o < n) (h : kd o = (100, N)) (hi : i < N) (h1 : N ≤ 1000) : PX10_write (ad z o) (J (i : Nat)) v (pl z n (rc o U V)) K = K (pl z n (rc o (us U i (.int v)) V)) := by
  unfold PX10_write
  rw [xbr_neg (by rw [J_lt (by omega) (by omega) (by omega) (by omega)]; omega), pl_aL ho h, xbr_neg (by rw [J_le (by omega) (by omega) (by omega) (by omega)]; omega), pl_aS ho h hi h1]
/-- what is written, place after place -/
theorem us_loop {i : Nat} {f : Nat → Value} {y x : Value} (hx : x = f i) : us (fun k => if k < i then f k else y) i x = fun k => if k < i + 1 then f k else y := by
  funext k
  unfold us
  by_cases c : k = i
  · rw [if_pos c, if_pos (by omega), hx, c]
  · rw [if_neg c]
    show (if k < i then f k else y) = _
    by_cases c2 : k < i
    · rw [if_pos c2, if_pos (by omega)]
    · rw [if_neg c2, if_neg (by omega)]
theorem dv_int : defaultValue .int = .int (J 0) := by rw [← J0]; rfl
theorem i_bytes {K : Nat → Mem → Prop} (k0 : kd o = (2, 2)) (k1 : kd (o + 1) = (100, N)) (hN : N ≤ 600) (h0 : 0 < N) (v0 : V o = fun k => if k = 0 then .ref (ad z (o + 1)) else .int (J 0)) (v1 : V (o + 1) = fun _ => .int (J 0)) : (nO (pl z o V) 2 2 tyX1 fun q M => PX1_init q (J (N : Nat)) M fun M2 => K q M2) = K (ad z o) (pl z (o + 2) V) := by
  rw [pl_nO k0]
  unfold PX1_init
  have ex : (if J 0 < J (N : Nat) then J (N : Nat) else J 0) = J (N : Nat) := by
    rw [if_pos (by rw [J_lt (by omega) (by omega) (by omega) (by omega)]; omega)]
  rw [pl_tS (by omega) (by rw [k0]), ex, pl_nA k1 rfl hN (by omega), rc_self (o := o + 1) (by rw [rc_ne (by omega), v1, dv_int]), pl_pF (by omega) (by rw [k0]), pl_pF (by omega) (by rw [k0])]
  have e : V o = us (us (fun j => defaultValue (tyX1 j)) 0 (.ref (ad z (o + 1)))) 1 (.int (J 0)) := by
    rw [v0]
    funext k
    unfold us
    rcases (show k = 0 ∨ k = 1 ∨ ∃ j, k = j + 2 from by
      rcases k with _ | _ | j
      · exact Or.inl rfl
      · exact Or.inr (Or.inl rfl)
      · exact Or.inr (Or.inr ⟨j, rfl⟩)) with rfl | rfl | ⟨j, rfl⟩
    · rfl
    · rfl
    · rw [if_neg (by omega), if_neg (by omega), if_neg (by omega)]
      exact dv_int.symm
  rw [rc_self e]
theorem i_row {K : Nat → Mem → Prop} (k0 : kd o = (7, 3)) (k1 : kd (o + 1) = (100, 24)) (k2 : kd (o + 2) = (100, 24)) (v0 : V o = fun k => if k = 0 then .ref (ad z (o + 1)) else if k = 1 then .ref (ad z (o + 2)) else .int (J 0)) (v1 : V (o + 1) = fun _ => .int (J 0)) (v2 : V (o + 2) = fun k => if k < 24 then .int (J (-1)) else .int (J 0)) : (nO (pl z o V) 7 3 tyX6 fun q M => PX6_init q M fun M2 => K q M2) = K (ad z o) (pl z (o + 3) V) := by
  rw [pl_nO k0]
  unfold PX6_init PX6_clear
  rw [pl_tS (by omega) (by rw [k0]), pl_nA (x := J 24) k1 rfl (by omega) (by omega), rc_self (o := o + 1) (by rw [rc_ne (by omega), v1, dv_int]), pl_pF (by omega) (by rw [k0]), pl_nA (x := J 24) k2 rfl (by omega) (by omega), rc_comm (by omega), pl_pF (by omega) (by rw [k0]), pl_tS (by omega) (by rw [k0]), pl_pF (by omega) (by rw [k0])]
  have e : V o = us (us (us (fun j => defaultValue (tyX6 j)) 0 (.ref (ad z (o + 1)))) 1 (.ref (ad z (o + 1 + 1)))) 2 (.int (J 0)) := by
    rw [v0]
    funext k
    unfold us
    rcases (show k = 0 ∨ k = 1 ∨ k = 2 ∨ ∃ j, k = j + 3 from by
      rcases k with _ | _ | _ | j
      · exact Or.inl rfl
      · exact Or.inr (Or.inl rfl)
      · exact Or.inr (Or.inr (Or.inl rfl))
      · exact Or.inr (Or.inr (Or.inr ⟨j, rfl⟩))) with rfl | rfl | rfl | ⟨j, rfl⟩
    · rfl
    · rfl
    · rfl
    · rw [if_neg (by omega), if_neg (by omega), if_neg (by omega), if_neg (by omega), if_neg (by omega)]
      exact dv_int.symm
  have st : ∀ i : Nat, rc o (us (us (us (fun j => defaultValue (tyX6 j)) 0 (.ref (ad z (o + 1)))) 1 (.ref (ad z (o + 1 + 1)))) 2 (.int (J 0))) (rc (o + 1 + 1) (fun k => if k < i then .int (J (-1)) else .int (J 0)) V) = rc (o + 2) (fun k => if k < i then .int (J (-1)) else .int (J 0)) V := fun i => by
    rw [rc_comm (by omega), rc_self e]
  have st0 : (fun _ : Nat => defaultValue .int) = fun k => if k < 0 then Value.int (J (-1)) else .int (J 0) := by
    funext k; rw [if_neg (by omega)]; exact dv_int
  rw [st0, st]
  have s0 : (pl z (o + 1 + 1 + 1) (rc (o + 2) (fun k => if k < 0 then .int (J (-1)) else .int (J 0)) V), J 0) = (fun i : Nat => (pl z (o + 3) (rc (o + 2) (fun k => if k < i then .int (J (-1)) else .int (J 0)) V), J (i : Nat))) 0 := rfl
  rw [s0]
  refine lp_for (fun i : Nat => (pl z (o + 3) (rc (o + 2) (fun k => if k < i then .int (J (-1)) else .int (J 0)) V), J (i : Nat))) 0 24 _ (by omega) ?_ ?_
  · intro i _ hi kc
    show CX6_clear_7 _ _ _ _ _ = _
    unfold CX6_clear_7
    rw [xbr_neg (by rw [J_le (by omega) (by omega) (by omega) (by omega)]; omega), pl_gR (r := ad z (o + 2)) (by omega) (by rw [k0]) (by rw [rc_ne (by omega), v0]; rfl), pl_write (by omega) k2 hi (by omega), us_loop (f := fun _ => Value.int (J (-1))) rfl, J_add]
    rfl
  · intro kc
    show CX6_clear_7 _ _ _ _ _ = _
    unfold CX6_clear_7
    rw [xbr_pos (by rw [J_le (by omega) (by omega) (by omega) (by omega)]; omega), rc_self (o := o + 2) v2]
theorem i_book {K : Nat → Mem → Prop} (k0 : kd o = (1, 12)) (k1 : kd (o + 1) = (2, 2)) (k2 : kd (o + 2) = (100, 23)) (v0 : V o = fun k => if k = 0 then .ref (ad z (o + 1)) else .int (J 0)) (v1 : V (o + 1) = fun k => if k = 0 then .ref (ad z (o + 2)) else .int (J 0)) (v2 : V (o + 2) = fun _ => .int (J 0)) : (nO (pl z o V) 1 12 tyX0 fun q M => PX0_init q M fun M2 => K q M2) = K (ad z o) (pl z (o + 3) V) := by
  rw [pl_nO k0]
  unfold PX0_init
  have hb := fun K => i_bytes (z := z) (o := o + 1) (N := 23) (V := rc o (fun j => defaultValue (tyX0 j)) V) (K := K) k1 k2 (by omega) (by omega) (by rw [rc_ne (by omega), v1]) (by rw [rc_ne (by omega), v2])
  have e23 : J ((23 : Nat) : Int) = J 23 := rfl
  rw [e23] at hb
  rw [pl_tS (by omega) (by rw [k0]), hb, pl_pF (by omega) (by rw [k0])]
  have e : V o = us (fun j => defaultValue (tyX0 j)) 0 (.ref (ad z (o + 1))) := by
    rw [v0]
    funext k
    unfold us
    by_cases c : k = 0
    · rw [if_pos c, if_pos c]
    · rw [if_neg c, if_neg c]
      have et : tyX0 k = .int := by
        unfold tyX0
        split <;> first | rfl | contradiction
      show Value.int (J 0) = defaultValue (tyX0 k)
      rw [et, dv_int]
  rw [rc_self e]
theorem kdB : ∀ i, i < 25 → kd (5 + 3 * i) = (1, 12) ∧ kd (5 + 3 * i + 1) = (2, 2) ∧ kd (5 + 3 * i + 2) = (100, 23) := by decide
theorem i_cat {K : Nat → Mem → Prop} (v3 : V 3 = fun k => if k = 0 then .ref (ad z 4) else if k = 1 then .ref (ad z 5) else .int (J 0)) (v4 : V 4 = fun k => if k < 24 then .ref (ad z (8 + 3 * k)) else .null) (vB : ∀ i, i < 25 → (V (5 + 3 * i) = fun k => if k = 0 then .ref (ad z (5 + 3 * i + 1)) else .int (J 0)) ∧ (V (5 + 3 * i + 1) = fun k => if k = 0 then .ref (ad z (5 + 3 * i + 2)) else .int (J 0)) ∧ V (5 + 3 * i + 2) = fun _ => .int (J 0)) : (nO (pl z 3 V) 3 4 tyX2 fun q M => PX2_init q M fun M2 => K q M2) = K (ad z 3) (pl z 80 V) := by
  have book : ∀ (i : Nat) (A B : Nat → Value) (K : Nat → Mem → Prop), i < 25 → (nO (pl z (5 + 3 * i) (rc 4 A (rc 3 B V))) 1 12 tyX0 fun q M => PX0_init q M fun M2 => K q M2) = K (ad z (5 + 3 * i)) (pl z (5 + 3 * i + 3) (rc 4 A (rc 3 B V))) := fun i A B K hi => by
    obtain ⟨k0, k1, k2⟩ := kdB i hi
    obtain ⟨w0, w1, w2⟩ := vB i hi
    exact i_book k0 k1 k2 (by rw [rc_ne (by omega), rc_ne (by omega), w0]) (by rw [rc_ne (by omega), rc_ne (by omega), w1]) (by rw [rc_ne (by omega), rc_ne (by omega), w2])
  have b0 := fun A B K => book 0 A B K (by omega)
  simp only [Nat.mul_zero, Nat.add_zero] at b0
  rw [pl_nO (show kd 3 = (3, 4) from rfl)]
  unfold PX2_init
  rw [pl_tS (by omega) (by rfl), pl_nA (N := 24) (x := J 24) (show kd 4 = (102, 24) from rfl) rfl (by omega) (by omega), rc_comm (show 4 ≠ 3 by omega), pl_pF (by omega) (by rfl), rc_comm (show 3 ≠ 4 by omega), b0, rc_comm (show 4 ≠ 3 by omega), pl_pF (by omega) (by rfl)]
  have e : V 3 = us (us (us (us (fun j => defaultValue (tyX2 j)) 0 (.ref (ad z 4))) 1 (.ref (ad z 5))) 2 (.int (J 0))) 3 (.int (J 0)) := by
    rw [v3]
    funext k
    unfold us
    rcases k with _ | _ | _ | _ | j
    · rfl
    · rfl
    · rfl
    · rfl
    · rw [if_neg (by omega), if_neg (by omega), if_neg (by omega), if_neg (by omega), if_neg (by omega), if_neg (by omega)]
      exact dv_int.symm
  have eN : (fun _ : Nat => Value.null) = fun k => if k < 0 then Value.ref (ad z (8 + 3 * k)) else .null := by
    funext k; rw [if_neg (by omega)]
  rw [rc_comm (show 3 ≠ 4 by omega), show (rc 4 (fun _ : Nat => Value.null) : (Nat → Nat → Value) → _) = rc 4 (fun k => if k < 0 then Value.ref (ad z (8 + 3 * k)) else .null) from by rw [eN]]
  generalize hU : us (us (fun j => defaultValue (tyX2 j)) 0 (.ref (ad z 4))) 1 (.ref (ad z 5)) = U at *
  have s0 : (pl z (5 + 3) (rc 4 (fun k => if k < 0 then Value.ref (ad z (8 + 3 * k)) else .null) (rc 3 U V)), 0 + 1 + 1 + 2, 0 + 24 + 12 + 652, J 0) = (fun i : Nat => (pl z (5 + 3 * (i + 1)) (rc 4 (fun k => if k < i then Value.ref (ad z (8 + 3 * k)) else .null) (rc 3 U V)), 4 + 3 * i, 688 + 664 * i, J (i : Nat))) 0 := rfl
  have u0 : U 0 = .ref (ad z 4) := by rw [← hU]; rfl
  show lp _ (pl z (5 + 3) (rc 4 (fun k => if k < 0 then Value.ref (ad z (8 + 3 * k)) else .null) (rc 3 U V)), 0 + 1 + 1 + 2, 0 + 24 + 12 + 652, J 0) = _
  rw [s0]
  refine lp_for (fun i : Nat => (pl z (5 + 3 * (i + 1)) (rc 4 (fun k => if k < i then Value.ref (ad z (8 + 3 * k)) else .null) (rc 3 U V)), 4 + 3 * i, 688 + 664 * i, J (i : Nat))) 0 24 _ (by omega) ?_ ?_
  · intro i _ hi kc
    show CX2_init_26 _ _ _ _ _ _ _ = _
    unfold CX2_init_26
    have c1 : (4 + 3 * i + 1 ≤ 100 ∧ 688 + 664 * i + 12 ≤ 20000) = True := eq_true ⟨by omega, by omega⟩
    have c2 : (4 + 3 * i + 1 + 2 ≤ 100 ∧ 688 + 664 * i + 12 + 652 ≤ 20000) = True := eq_true ⟨by omega, by omega⟩
    have rr : rc 4 (fun k => if k < i then Value.ref (ad z (8 + 3 * k)) else .null) (rc 3 U V) 3 0 = .ref (ad z 4) := by
      rw [rc_ne (by omega), rc_at]; exact u0
    have e8 : (Value.ref (ad z (5 + 3 * (i + 1)))) = Value.ref (ad z (8 + 3 * i)) := by rw [show 5 + 3 * (i + 1) = 8 + 3 * i by omega]
    rw [pl_gR (r := ad z 4) (by omega) (by rfl) rr, pl_aL (t := 102) (N := 24) (by omega) (by rfl), xbr_neg (by rw [J_le (by omega) (by omega) (by omega) (by omega)]; omega), pl_gR (r := ad z 4) (by omega) (by rfl) rr]
    simp only [c1, c2, true_and]
    rw [book (i + 1) _ _ _ (by omega), pl_aP (by omega) (by rfl) hi (by omega) (by rw [(kdB (i + 1) (by omega)).1]), us_loop (f := fun k => Value.ref (ad z (8 + 3 * k))) e8, J_add]
    have e1 : 5 + 3 * (i + 1) + 3 = 5 + 3 * (i + 1 + 1) := by omega
    have e2 : 4 + 3 * i + 1 + 2 = 4 + 3 * (i + 1) := by omega
    have e3 : 688 + 664 * i + 12 + 652 = 688 + 664 * (i + 1) := by omega
    rw [e1, e2, e3]
    rfl
  · intro kc
    show CX2_init_26 _ _ _ _ _ _ _ = _
    unfold CX2_init_26
    have rr : rc 4 (fun k => if k < 24 then Value.ref (ad z (8 + 3 * k)) else .null) (rc 3 U V) 3 0 = .ref (ad z 4) := by
      rw [rc_ne (by omega), rc_at]; exact u0
    have c1 : (4 + 3 * 24 ≤ 100 ∧ 688 + 664 * 24 ≤ 20000) = True := eq_true ⟨by omega, by omega⟩
    rw [pl_gR (r := ad z 4) (by omega) (by rfl) rr, pl_aL (t := 102) (N := 24) (by omega) (by rfl), xbr_pos (by rw [J_le (by omega) (by omega) (by omega) (by omega)]; omega), rc_comm (show 4 ≠ 3 by omega), pl_pF (by omega) (by rfl), pl_pF (by omega) (by rfl), c1, true_and, rc_self (o := 4) v4, rc_self (o := 3) e]
theorem i_shelves {K : Nat → Mem → Prop} (v0 : V 80 = fun k => if k = 0 then .ref (ad z 81) else .null) (v1 : V 81 = fun k => if k < 8 then .int (J 30) else .int (J 0)) : (nO (pl z 80 V) 9 1 tyX8 fun q M => PX8_init q M fun M2 => K q M2) = K (ad z 80) (pl z 82 V) := by
  rw [pl_nO (show kd 80 = (9, 1) from rfl)]
  unfold PX8_init
  rw [pl_tS (by omega) (by rfl), pl_nA (N := 8) (x := J 8) (show kd 81 = (100, 8) from rfl) rfl (by omega) (by omega), rc_comm (show 81 ≠ 80 by omega), pl_pF (by omega) (by rfl)]
  have e : ∀ A, rc 80 (us (fun j => defaultValue (tyX8 j)) 0 (.ref (ad z 81))) (rc 81 A V) = rc 81 A V := fun A => rc_self (by
    rw [rc_ne (by omega), v0]
    funext k
    unfold us
    rcases k with _ | j
    · rfl
    · rw [if_neg (by omega), if_neg (by omega)]; rfl)
  have eN : (fun _ : Nat => defaultValue .int) = fun k => if k < 0 then Value.int (J 30) else .int (J 0) := by
    funext k; rw [if_neg (by omega)]; exact dv_int
  rw [e, eN]
  have s0 : (pl z (80 + 1 + 1) (rc 81 (fun k => if k < 0 then Value.int (J 30) else .int (J 0)) V), J 0) = (fun i : Nat => (pl z 82 (rc 81 (fun k => if k < i then Value.int (J 30) else .int (J 0)) V), J (i : Nat))) 0 := rfl
  show lp _ (pl z (80 + 1 + 1) (rc 81 (fun k => if k < 0 then Value.int (J 30) else .int (J 0)) V), J 0) = _
  rw [s0]
  refine lp_for (fun i : Nat => (pl z 82 (rc 81 (fun k => if k < i then Value.int (J 30) else .int (J 0)) V), J (i : Nat))) 0 8 _ (by omega) ?_ ?_
  · intro i _ hi kc
    show CX8_init_14 _ _ _ _ _ = _
    unfold CX8_init_14
    rw [xbr_neg (by rw [J_le (by omega) (by omega) (by omega) (by omega)]; omega), pl_gR (r := ad z 81) (by omega) (by rfl) (by rw [rc_ne (by omega), v0]; rfl), pl_write (by omega) (show kd 81 = (100, 8) from rfl) hi (by omega), us_loop (f := fun _ => Value.int (J 30)) rfl, J_add]
    rfl
  · intro kc
    show CX8_init_14 _ _ _ _ _ = _
    unfold CX8_init_14
    rw [xbr_pos (by rw [J_le (by omega) (by omega) (by omega) (by omega)]; omega), rc_self (o := 81) v1]
theorem i_chain {K : Nat → Mem → Prop} (v0 : V 88 = fun k => if k = 0 then .ref (ad z 89) else .null) (v1 : V 89 = fun _ => .int (J 0)) : (nO (pl z 88 V) 10 1 tyX9 fun q M => PX9_init q M fun M2 => K q M2) = K (ad z 88) (pl z 90 V) := by
  rw [pl_nO (show kd 88 = (10, 1) from rfl)]
  unfold PX9_init
  rw [pl_tS (by omega) (by rfl), pl_nA (N := 24) (x := J 24) (show kd 89 = (100, 24) from rfl) rfl (by omega) (by omega), rc_self (o := 89) (by rw [rc_ne (by omega), v1, dv_int]), pl_pF (by omega) (by rfl), rc_self (by
    rw [v0]
    funext k
    unfold us
    rcases k with _ | j
    · rfl
    · rw [if_neg (by omega), if_neg (by omega)]; rfl)]
theorem i_hab {K : Nat → Mem → Prop} (v0 : V 90 = fun k => if k = 0 then .ref (ad z 91) else .null) (v1 : V 91 = fun k => if k < 5 then (if k = 0 then .int (J 60) else .int (J 10)) else .int (J 0)) : (nO (pl z 90 V) 4 1 tyX3 fun q M => PX3_init q M fun M2 => K q M2) = K (ad z 90) (pl z 92 V) := by
  rw [pl_nO (show kd 90 = (4, 1) from rfl)]
  unfold PX3_init
  rw [pl_tS (by omega) (by rfl), pl_nA (N := 5) (x := J 5) (show kd 91 = (100, 5) from rfl) rfl (by omega) (by omega), rc_comm (show 91 ≠ 90 by omega), pl_pF (by omega) (by rfl)]
  have e : ∀ A, rc 90 (us (fun j => defaultValue (tyX3 j)) 0 (.ref (ad z 91))) (rc 91 A V) = rc 91 A V := fun A => rc_self (by
    rw [rc_ne (by omega), v0]
    funext k
    unfold us
    rcases k with _ | j
    · rfl
    · rw [if_neg (by omega), if_neg (by omega)]; rfl)
  have eN : (fun _ : Nat => defaultValue .int) = fun k => if k < 0 then (if k = 0 then Value.int (J 60) else .int (J 10)) else .int (J 0) := by
    funext k; rw [if_neg (by omega)]; exact dv_int
  rw [e, eN]
  have s0 : (pl z (90 + 1 + 1) (rc 91 (fun k => if k < 0 then (if k = 0 then Value.int (J 60) else .int (J 10)) else .int (J 0)) V), J 0) = (fun i : Nat => (pl z 92 (rc 91 (fun k => if k < i then (if k = 0 then Value.int (J 60) else .int (J 10)) else .int (J 0)) V), J (i : Nat))) 0 := rfl
  show lp _ (pl z (90 + 1 + 1) (rc 91 (fun k => if k < 0 then (if k = 0 then Value.int (J 60) else .int (J 10)) else .int (J 0)) V), J 0) = _
  rw [s0]
  refine lp_for (fun i : Nat => (pl z 92 (rc 91 (fun k => if k < i then (if k = 0 then Value.int (J 60) else .int (J 10)) else .int (J 0)) V), J (i : Nat))) 0 5 _ (by omega) ?_ ?_
  · intro i _ hi kc
    show CX3_init_13 _ _ _ _ _ = _
    unfold CX3_init_13
    rw [xbr_neg (by rw [J_le (by omega) (by omega) (by omega) (by omega)]; omega), pl_gR (r := ad z 91) (by omega) (by rfl) (by rw [rc_ne (by omega), v0]; rfl)]
    by_cases c : i = 0
    · rw [xbr_pos (by rw [J_eq (by omega) (by omega) (by omega) (by omega)]; omega)]
      unfold JX3_init_34
      rw [pl_write (by omega) (show kd 91 = (100, 5) from rfl) hi (by omega), us_loop (f := fun k => if k = 0 then Value.int (J 60) else .int (J 10)) (if_pos c).symm, J_add]
      rfl
    · rw [xbr_neg (by rw [J_eq (by omega) (by omega) (by omega) (by omega)]; omega)]
      unfold JX3_init_34
      rw [pl_write (by omega) (show kd 91 = (100, 5) from rfl) hi (by omega), us_loop (f := fun k => if k = 0 then Value.int (J 60) else .int (J 10)) (if_neg c).symm, J_add]
      rfl
  · intro kc
    show CX3_init_13 _ _ _ _ _ = _
    unfold CX3_init_13
    rw [xbr_pos (by rw [J_le (by omega) (by omega) (by omega) (by omega)]; omega), rc_self (o := 91) v1]
theorem i_x7 {K : Nat → Mem → Prop} (v0 : V 92 = fun k => if k = 0 then .ref (ad z 93) else if k = 1 then .ref (ad z 94) else if k = 2 then .ref (ad z 95) else .int (J 0)) (v1 : V 93 = fun _ => .int (J 0)) (v2 : V 94 = fun _ => .int (J 0)) (v3 : V 95 = fun _ => .int (J 0)) : (nO (pl z 92 V) 8 5 tyX7 fun q M => PX7_init q M fun M2 => K q M2) = K (ad z 92) (pl z 96 V) := by
  rw [pl_nO (show kd 92 = (8, 5) from rfl)]
  unfold PX7_init
  rw [pl_tS (by omega) (by rfl), pl_nA (N := 8) (x := J 8) (show kd 93 = (100, 8) from rfl) rfl (by omega) (by omega), rc_self (o := 93) (by rw [rc_ne (by omega), v1, dv_int]), pl_pF (by omega) (by rfl), pl_nA (N := 8) (x := J 8) (show kd 94 = (100, 8) from rfl) rfl (by omega) (by omega), rc_self (o := 94) (by rw [rc_ne (by omega), v2, dv_int]), pl_pF (by omega) (by rfl), pl_nA (N := 8) (x := J 8) (show kd 95 = (100, 8) from rfl) rfl (by omega) (by omega), rc_self (o := 95) (by rw [rc_ne (by omega), v3, dv_int]), pl_pF (by omega) (by rfl), rc_self (by
    rw [v0]
    funext k
    unfold us
    rcases k with _ | _ | _ | _ | j
    · rfl
    · rfl
    · rfl
    · exact dv_int.symm
    · rw [if_neg (by omega), if_neg (by omega), if_neg (by omega), if_neg (by omega), if_neg (by omega), if_neg (by omega)]
      exact dv_int.symm)]
theorem i_x4 {K : Nat → Mem → Prop} (k0 : kd o = (5, 4)) (k1 : kd (o + 1) = (7, 3)) (k2 : kd (o + 2) = (100, 24)) (k3 : kd (o + 3) = (100, 24)) (v : V o = fun k => if k = 0 then .ref (ad z (o + 1)) else .int (J 0)) (v0 : V (o + 1) = fun k => if k = 0 then .ref (ad z (o + 2)) else if k = 1 then .ref (ad z (o + 3)) else .int (J 0)) (v1 : V (o + 2) = fun _ => .int (J 0)) (v2 : V (o + 3) = fun k => if k < 24 then .int (J (-1)) else .int (J 0)) : (nO (pl z o V) 5 4 tyX4 fun q M => PX4_init q M fun M2 => K q M2) = K (ad z o) (pl z (o + 4) V) := by
  rw [pl_nO k0]
  unfold PX4_init
  have hb := fun K => i_row (z := z) (o := o + 1) (V := rc o (fun j => defaultValue (tyX4 j)) V) (K := K) k1 k2 k3 (by rw [rc_ne (by omega), v0]) (by rw [rc_ne (by omega), v1]) (by rw [rc_ne (by omega), v2])
  rw [pl_tS (by omega) (by rw [k0]), hb, pl_pF (by omega) (by rw [k0]), rc_self (by
    rw [v]
    funext k
    unfold us
    rcases k with _ | _ | _ | j
    · rfl
    · exact dv_int.symm
    · exact dv_int.symm
    · rw [if_neg (by omega), if_neg (by omega)]
      exact dv_int.symm)]
theorem rf_big {k : Nat} (h : 32 ≤ k) : rf o k = none := by
  unfold rf
  by_cases c : o = 4
  · rw [if_pos c, if_neg (by omega)]
  · rw [if_neg c]
    have hf : rfL.find? (fun q => q.1 == o && q.2.1 == k) = none := by
      rw [List.find?_eq_none]
      intro q hq
      have hs : ∀ q ∈ rfL, q.2.1 < 32 := by decide
      have := hs q hq
      have : q.2.1 ≠ k := by omega
      simp [this]
    rw [hf]; rfl
theorem rf_all {R : Nat → Option Nat} (h : ∀ k, k < 32 → rf o k = R k) (h2 : ∀ k, 32 ≤ k → R k = none) (k : Nat) : rf o k = R k := by
  rcases Nat.lt_or_ge k 32 with c | c
  · exact h k c
  · rw [rf_big c, h2 k c]
theorem nl_f {k : Nat} (h : (kd o).1 ≠ 4 ∧ (kd o).1 ≠ 9 ∧ (kd o).1 ≠ 10 ∧ (kd o).1 ≠ 12 ∧ (kd o).1 ≠ 102) : nl o k = false := by
  unfold nl
  simp [h]
theorem nl_t {k : Nat} (h : (kd o).1 = 4 ∨ (kd o).1 = 9 ∨ (kd o).1 = 10 ∨ (kd o).1 = 12 ∨ (kd o).1 = 102) (h2 : (kd o).2 ≤ k) : nl o k = true := by
  unfold nl
  simp [h2]
  omega
theorem fF_i {k : Nat} (h : rf o k = none) (h2 : nl o k = false) : fF z o k = .int (J (C0 o k)) := by
  unfold fF; rw [h]
  show (if nl o k = true then _ else _) = _
  rw [h2]; rfl
theorem fF_n {k : Nat} (h : rf o k = none) (h2 : nl o k = true) : fF z o k = .null := by
  unfold fF; rw [h]
  show (if nl o k = true then _ else _) = _
  rw [h2]; rfl
theorem fF_r {k r : Nat} (h : rf o k = some r) : fF z o k = .ref (ad z r) := by
  unfold fF; rw [h]
theorem fz_arr (h : ∀ k, k < 32 → rf o k = none) (hn : (kd o).1 ≠ 4 ∧ (kd o).1 ≠ 9 ∧ (kd o).1 ≠ 10 ∧ (kd o).1 ≠ 12 ∧ (kd o).1 ≠ 102) (hc : ∀ k, C0 o k = 0) : fF z o = fun _ => .int (J 0) := by
  funext k
  rw [fF_i (rf_all (R := fun _ => none) h (fun _ _ => rfl) k) (nl_f hn), hc]
theorem fz_one {r : Nat} (h : ∀ k, k < 32 → rf o k = if k = 0 then some r else none) (hn : (kd o).1 ≠ 4 ∧ (kd o).1 ≠ 9 ∧ (kd o).1 ≠ 10 ∧ (kd o).1 ≠ 12 ∧ (kd o).1 ≠ 102) (hc : ∀ k, C0 o k = 0) : fF z o = fun k => if k = 0 then .ref (ad z r) else .int (J 0) := by
  funext k
  have e := rf_all (R := fun k => if k = 0 then some r else none) h (fun k hk => if_neg (by omega)) k
  by_cases c : k = 0
  · rw [if_pos c]; exact fF_r (e.trans (if_pos c))
  · rw [if_neg c, fF_i (e.trans (if_neg c)) (nl_f hn), hc]
theorem fz_nul {r : Nat} (h : ∀ k, k < 32 → rf o k = if k = 0 then some r else none) (hn : (kd o).1 = 4 ∨ (kd o).1 = 9 ∨ (kd o).1 = 10 ∨ (kd o).1 = 12 ∨ (kd o).1 = 102) (h2 : (kd o).2 ≤ 1) : fF z o = fun k => if k = 0 then .ref (ad z r) else .null := by
  funext k
  have e := rf_all (R := fun k => if k = 0 then some r else none) h (fun k hk => if_neg (by omega)) k
  by_cases c : k = 0
  · rw [if_pos c]; exact fF_r (e.trans (if_pos c))
  · rw [if_neg c, fF_n (e.trans (if_neg c)) (nl_t hn (by omega))]
theorem fz_row {r s : Nat} (h : ∀ k, k < 32 → rf o k = if k = 0 then some r else if k = 1 then some s else none) (hn : (kd o).1 ≠ 4 ∧ (kd o).1 ≠ 9 ∧ (kd o).1 ≠ 10 ∧ (kd o).1 ≠ 12 ∧ (kd o).1 ≠ 102) (hc : ∀ k, C0 o k = 0) : fF z o = fun k => if k = 0 then .ref (ad z r) else if k = 1 then .ref (ad z s) else .int (J 0) := by
  funext k
  have e := rf_all (R := fun k => if k = 0 then some r else if k = 1 then some s else none) h (fun k hk => by
    show (if k = 0 then _ else if k = 1 then _ else _) = _
    rw [if_neg (by omega), if_neg (by omega)]) k
  by_cases c : k = 0
  · rw [if_pos c]; exact fF_r (e.trans (if_pos c))
  · rw [if_neg c]
    by_cases c1 : k = 1
    · rw [if_pos c1]; exact fF_r (e.trans ((if_neg c).trans (if_pos c1)))
    · rw [if_neg c1, fF_i (e.trans ((if_neg c).trans (if_neg c1))) (nl_f hn), hc]
theorem fz_sh (ho : o = 84 ∨ o = 87 ∨ o = 99 ∨ o = 103) : fF z o = fun k => if k < 24 then .int (J (-1)) else .int (J 0) := by
  funext k
  have e : rf o k = none := rf_all (R := fun _ => none) (by rcases ho with rfl | rfl | rfl | rfl <;> decide) (fun _ _ => rfl) k
  have hn : nl o k = false := nl_f (by rcases ho with rfl | rfl | rfl | rfl <;> decide)
  rw [fF_i e hn]
  by_cases c : k < 24
  · rw [if_pos c, C0_sh ho c]
  · rw [if_neg c]
    have : C0 o k = 0 := by
      unfold C0
      rw [if_neg (by omega), if_neg (by omega), if_neg (by omega), if_neg (by omega), if_neg (by omega)]
    rw [this]
theorem fz_w (ho : o = 81 ∨ o = 110) : fF z o = fun k => if k < 8 then .int (J 30) else .int (J 0) := by
  funext k
  have e : rf o k = none := rf_all (R := fun _ => none) (by rcases ho with rfl | rfl <;> decide) (fun _ _ => rfl) k
  have hn : nl o k = false := nl_f (by rcases ho with rfl | rfl <;> decide)
  rw [fF_i e hn]
  by_cases c : k < 8
  · rw [if_pos c, C0_w ho c]
  · rw [if_neg c]
    have : C0 o k = 0 := by
      unfold C0
      rw [if_neg (by omega), if_neg (by omega), if_neg (by omega), if_neg (by omega), if_neg (by omega)]
    rw [this]
theorem fz_h (ho : o = 91 ∨ o = 113) : fF z o = fun k => if k < 5 then (if k = 0 then .int (J 60) else .int (J 10)) else .int (J 0) := by
  funext k
  have e : rf o k = none := rf_all (R := fun _ => none) (by rcases ho with rfl | rfl <;> decide) (fun _ _ => rfl) k
  have hn : nl o k = false := nl_f (by rcases ho with rfl | rfl <;> decide)
  rw [fF_i e hn]
  by_cases c : k < 5
  · rw [if_pos c, C0_h ho c]
    by_cases c2 : k = 0
    · rw [if_pos c2, if_pos c2]
    · rw [if_neg c2, if_neg c2]
  · rw [if_neg c]
    have : C0 o k = 0 := by
      unfold C0
      rw [if_neg (by omega), if_neg (by omega), if_neg (by omega), if_neg (by omega), if_neg (by omega)]
    rw [this]
theorem fz_4 : fF z 4 = fun k => if k < 24 then .ref (ad z (8 + 3 * k)) else .null := by
  funext k
  by_cases c : k < 24
  · rw [if_pos c]
    refine fF_r ?_
    unfold rf; rw [if_pos rfl, if_pos c]
  · rw [if_neg c]
    refine fF_n ?_ (nl_t (by decide) ?_)
    · unfold rf; rw [if_pos rfl, if_neg c]
    · show 24 ≤ k; omega
theorem fz_92 : fF z 92 = fun k => if k = 0 then .ref (ad z 93) else if k = 1 then .ref (ad z 94) else if k = 2 then .ref (ad z 95) else .int (J 0) := by
  funext k
  have e := rf_all (o := 92) (R := fun k => if k = 0 then some 93 else if k = 1 then some 94 else if k = 2 then some 95 else none) (by decide) (fun k hk => by
    show (if k = 0 then _ else if k = 1 then _ else if k = 2 then _ else _) = _
    rw [if_neg (by omega), if_neg (by omega), if_neg (by omega)]) k
  by_cases c : k = 0
  · rw [if_pos c]; exact fF_r (e.trans (if_pos c))
  · rw [if_neg c]
    by_cases c1 : k = 1
    · rw [if_pos c1]; exact fF_r (e.trans ((if_neg c).trans (if_pos c1)))
    · rw [if_neg c1]
      by_cases c2 : k = 2
      · rw [if_pos c2]; exact fF_r (e.trans ((if_neg c).trans ((if_neg c1).trans (if_pos c2))))
      · rw [if_neg c2, fF_i (e.trans ((if_neg c).trans ((if_neg c1).trans (if_neg c2)))) (nl_f (by decide)), C0_z (by omega)]
theorem rfB : ∀ i, i < 25 → ∀ k, k < 32 → rf (5 + 3 * i) k = (if k = 0 then some (5 + 3 * i + 1) else none) ∧ rf (5 + 3 * i + 1) k = (if k = 0 then some (5 + 3 * i + 2) else none) ∧ rf (5 + 3 * i + 2) k = none := by decide +kernel
theorem fz_B {i : Nat} (hi : i < 25) : (fF z (5 + 3 * i) = fun k => if k = 0 then .ref (ad z (5 + 3 * i + 1)) else .int (J 0)) ∧ (fF z (5 + 3 * i + 1) = fun k => if k = 0 then .ref (ad z (5 + 3 * i + 2)) else .int (J 0)) ∧ fF z (5 + 3 * i + 2) = fun _ => .int (J 0) := by
  obtain ⟨k0, k1, k2⟩ := kdB i hi
  exact ⟨fz_one (fun k hk => (rfB i hi k hk).1) (by rw [k0]; decide) (fun k => C0_z (by omega)), fz_one (fun k hk => (rfB i hi k hk).2.1) (by rw [k1]; decide) (fun k => C0_z (by omega)), fz_arr (fun k hk => (rfB i hi k hk).2.2) (by rw [k2]; decide) (fun k => C0_z (by omega))⟩
theorem dv_bool : defaultValue .boolean = .int (J 0) := by rw [← J0]; rfl
theorem fz_0 : fF z 0 = (us (us (us (us (us (us (us (us (us (us (us (us (us (fun j => defaultValue (tyX10 j)) 0 (.ref (ad z 1))) 1 (.ref (ad z 3))) 2 (.ref (ad z 80))) 3 (.ref (ad z 82))) 4 (.ref (ad z 85))) 5 (.ref (ad z 88))) 6 (.ref (ad z 90))) 7 (.ref (ad z 92))) 8 (.ref (ad z 96))) 9 (.ref (ad z 100))) 10 (.int (J (-1)))) 11 (.int (J 0))) 12 (.int (J 0))) := by
  funext k
  rcases k with _ | _ | _ | _ | _ | _ | _ | _ | _ | _ | _ | _ | _ | j
  all_goals rfl
theorem fz_104 : fF z 104 = (us (us (us (us (us (us (us (us (us (us (us (us (us (us (us (us (us (us (us (us (us (fun j => defaultValue (tyX11 j)) 1 (.ref (ad z 105))) 2 (.ref (ad z 106))) 3 (.ref (ad z 107))) 4 (.ref (ad z 108))) 5 (.ref (ad z 109))) 6 (.ref (ad z 110))) 8 (.ref (ad z 111))) 9 (.ref (ad z 112))) 11 (.ref (ad z 113))) 12 (.ref (ad z 114))) 14 (.int (J (-1)))) 18 (.ref (ad z 115))) 21 (.ref (ad z 116))) 22 (.ref (ad z 117))) 23 (.ref (ad z 118))) 24 (.ref (ad z 119))) 26 (.ref (ad z 120))) 27 (.ref (ad z 121))) 28 (.ref (ad z 122))) 30 (.ref (ad z 123))) 31 (.ref (ad z 124))) := by
  funext k
  rcases k with _ | _ | _ | _ | _ | _ | _ | _ | _ | _ | _ | _ | _ | _ | _ | _ | _ | _ | _ | _ | _ | _ | _ | _ | _ | _ | _ | _ | _ | _ | _ | _ | j
  all_goals rfl
theorem i_desk {K : Nat → Mem → Prop} (h0 : V 0 = fF z 0) (h : ∀ a, 1 ≤ a → a < 104 → V a = fF z a) : (nO (pl z 0 V) 11 13 tyX10 fun q M => PX10_init q M fun M2 => K q M2) = K (ad z 0) (pl z 104 V) := by
  have w : ∀ U a, 1 ≤ a → a < 104 → rc 0 U V a = fF z a := fun U a h1 h2 => by rw [rc_ne (by omega), h a h1 h2]
  have d1 : ∀ U (K : Nat → Mem → Prop), (nO (pl z 1 (rc 0 U V)) 2 2 tyX1 fun q M => PX1_init q (J 600) M fun M2 => K q M2) = K (ad z 1) (pl z 3 (rc 0 U V)) := fun U K => i_bytes (o := 1) (N := 600) rfl rfl (by omega) (by omega) ((w U 1 (by omega) (by omega)).trans (fz_one (by decide) (by decide) (fun k => C0_z (by omega)))) ((w U 2 (by omega) (by omega)).trans (fz_arr (by decide) (by decide) (fun k => C0_z (by omega))))
  have d3 : ∀ U (K : Nat → Mem → Prop), (nO (pl z 3 (rc 0 U V)) 3 4 tyX2 fun q M => PX2_init q M fun M2 => K q M2) = K (ad z 3) (pl z 80 (rc 0 U V)) := fun U K => i_cat ((w U 3 (by omega) (by omega)).trans (fz_row (by decide) (by decide) (fun k => C0_z (by omega)))) ((w U 4 (by omega) (by omega)).trans fz_4) (fun i hi => by
    rw [w U (5 + 3 * i) (by omega) (by omega), w U (5 + 3 * i + 1) (by omega) (by omega), w U (5 + 3 * i + 2) (by omega) (by omega)]
    exact fz_B hi)
  have d80 : ∀ U (K : Nat → Mem → Prop), (nO (pl z 80 (rc 0 U V)) 9 1 tyX8 fun q M => PX8_init q M fun M2 => K q M2) = K (ad z 80) (pl z 82 (rc 0 U V)) := fun U K => i_shelves ((w U 80 (by omega) (by omega)).trans (fz_nul (by decide) (by decide) (by decide))) ((w U 81 (by omega) (by omega)).trans (fz_w (by omega)))
  have d82 : ∀ U (K : Nat → Mem → Prop), (nO (pl z 82 (rc 0 U V)) 7 3 tyX6 fun q M => PX6_init q M fun M2 => K q M2) = K (ad z 82) (pl z 85 (rc 0 U V)) := fun U K => i_row rfl rfl rfl ((w U 82 (by omega) (by omega)).trans (fz_row (by decide) (by decide) (fun k => C0_z (by omega)))) ((w U 83 (by omega) (by omega)).trans (fz_arr (by decide) (by decide) (fun k => C0_z (by omega)))) ((w U 84 (by omega) (by omega)).trans (fz_sh (by omega)))
  have d85 : ∀ U (K : Nat → Mem → Prop), (nO (pl z 85 (rc 0 U V)) 7 3 tyX6 fun q M => PX6_init q M fun M2 => K q M2) = K (ad z 85) (pl z 88 (rc 0 U V)) := fun U K => i_row rfl rfl rfl ((w U 85 (by omega) (by omega)).trans (fz_row (by decide) (by decide) (fun k => C0_z (by omega)))) ((w U 86 (by omega) (by omega)).trans (fz_arr (by decide) (by decide) (fun k => C0_z (by omega)))) ((w U 87 (by omega) (by omega)).trans (fz_sh (by omega)))
  have d88 : ∀ U (K : Nat → Mem → Prop), (nO (pl z 88 (rc 0 U V)) 10 1 tyX9 fun q M => PX9_init q M fun M2 => K q M2) = K (ad z 88) (pl z 90 (rc 0 U V)) := fun U K => i_chain ((w U 88 (by omega) (by omega)).trans (fz_nul (by decide) (by decide) (by decide))) ((w U 89 (by omega) (by omega)).trans (fz_arr (by decide) (by decide) (fun k => C0_z (by omega))))
  have d90 : ∀ U (K : Nat → Mem → Prop), (nO (pl z 90 (rc 0 U V)) 4 1 tyX3 fun q M => PX3_init q M fun M2 => K q M2) = K (ad z 90) (pl z 92 (rc 0 U V)) := fun U K => i_hab ((w U 90 (by omega) (by omega)).trans (fz_nul (by decide) (by decide) (by decide))) ((w U 91 (by omega) (by omega)).trans (fz_h (by omega)))
  have d92 : ∀ U (K : Nat → Mem → Prop), (nO (pl z 92 (rc 0 U V)) 8 5 tyX7 fun q M => PX7_init q M fun M2 => K q M2) = K (ad z 92) (pl z 96 (rc 0 U V)) := fun U K => i_x7 ((w U 92 (by omega) (by omega)).trans fz_92) ((w U 93 (by omega) (by omega)).trans (fz_arr (by decide) (by decide) (fun k => C0_z (by omega)))) ((w U 94 (by omega) (by omega)).trans (fz_arr (by decide) (by decide) (fun k => C0_z (by omega)))) ((w U 95 (by omega) (by omega)).trans (fz_arr (by decide) (by decide) (fun k => C0_z (by omega))))
  have d96 : ∀ U (K : Nat → Mem → Prop), (nO (pl z 96 (rc 0 U V)) 5 4 tyX4 fun q M => PX4_init q M fun M2 => K q M2) = K (ad z 96) (pl z 100 (rc 0 U V)) := fun U K => i_x4 rfl rfl rfl rfl ((w U 96 (by omega) (by omega)).trans (fz_one (by decide) (by decide) (fun k => C0_z (by omega)))) ((w U 97 (by omega) (by omega)).trans (fz_row (by decide) (by decide) (fun k => C0_z (by omega)))) ((w U 98 (by omega) (by omega)).trans (fz_arr (by decide) (by decide) (fun k => C0_z (by omega)))) ((w U 99 (by omega) (by omega)).trans (fz_sh (by omega)))
  have d100 : ∀ U (K : Nat → Mem → Prop), (nO (pl z 100 (rc 0 U V)) 5 4 tyX4 fun q M => PX4_init q M fun M2 => K q M2) = K (ad z 100) (pl z 104 (rc 0 U V)) := fun U K => i_x4 rfl rfl rfl rfl ((w U 100 (by omega) (by omega)).trans (fz_one (by decide) (by decide) (fun k => C0_z (by omega)))) ((w U 101 (by omega) (by omega)).trans (fz_row (by decide) (by decide) (fun k => C0_z (by omega)))) ((w U 102 (by omega) (by omega)).trans (fz_arr (by decide) (by decide) (fun k => C0_z (by omega)))) ((w U 103 (by omega) (by omega)).trans (fz_sh (by omega)))
  rw [pl_nO (show kd 0 = (11, 13) from rfl), Nat.zero_add]
  unfold PX10_init
  rw [pl_tS (by omega) (by rfl), d1, pl_pF (by omega) (by rfl), d3, pl_pF (by omega) (by rfl), d80, pl_pF (by omega) (by rfl), d82, pl_pF (by omega) (by rfl), d85, pl_pF (by omega) (by rfl), d88, pl_pF (by omega) (by rfl), d90, pl_pF (by omega) (by rfl), d92, pl_pF (by omega) (by rfl), d96, pl_pF (by omega) (by rfl), d100, pl_pF (by omega) (by rfl), pl_pF (by omega) (by rfl), pl_pF (by omega) (by rfl), pl_pF (by omega) (by rfl), rc_self (h0.trans fz_0)]
theorem pl_rc (h : n ≤ o) : pl z n V = pl z n (rc o U V) := by
  refine Prod.ext rfl (Prod.ext (funext fun b => funext fun j => ?_) rfl)
  show (if z ≤ b ∧ b < z + n then V (b - z) j else .null) = if z ≤ b ∧ b < z + n then rc o U V (b - z) j else .null
  by_cases c : z ≤ b ∧ b < z + n
  · rw [if_pos c, if_pos c, rc_ne (by omega)]
  · rw [if_neg c, if_neg c]
theorem arM : ∀ a, a < 125 → 105 ≤ a → (∀ k, k < 32 → rf a k = none) ∧ ((kd a).1 ≠ 4 ∧ (kd a).1 ≠ 9 ∧ (kd a).1 ≠ 10 ∧ (kd a).1 ≠ 12 ∧ (kd a).1 ≠ 102) := by decide +kernel
theorem i_model {K : Nat → Mem → Prop} (h : ∀ a, 104 ≤ a → a < 125 → V a = fF z a) : (nO (pl z 104 V) 12 32 tyX11 fun q M => PX11_init q M fun M2 => K q M2) = K (ad z 104) (pl z 125 V) := by
  have s1 : ∀ W, pl z 104 V = pl z 104 (rc 110 W (rc 113 W V)) := fun W => by rw [← pl_rc (by omega), ← pl_rc (by omega)]
  rw [s1 (fun _ => .int (J 0))]
  have ar : ∀ a, 105 ≤ a → a < 125 → rc 110 (fun _ => .int (J 0)) (rc 113 (fun _ => .int (J 0)) V) a = fun _ => .int (J 0) := fun a h1 h2 => by
    by_cases c : a = 110
    · rw [c, rc_at]
    · rw [rc_ne c]
      by_cases c2 : a = 113
      · rw [c2, rc_at]
      · rw [rc_ne c2, h a (by omega) h2]
        exact fz_arr (arM a h2 h1).1 (arM a h2 h1).2 (fun k => C0_z (by omega))
  have vM : ∀ A B, rc 110 A (rc 113 B V) 104 = fF z 104 := fun A B => by rw [rc_ne (by omega), rc_ne (by omega), h 104 (by omega) (by omega)]
  have vM1 : ∀ B, rc 113 B V 104 = fF z 104 := fun B => by rw [rc_ne (by omega), h 104 (by omega) (by omega)]
  have l2 : ∀ K' : Mem → Prop, lp (BX11_init_192 K' (ad z 104)) (pl z 125 (rc 113 (fun _ => .int (J 0)) V), J 0) = K' (pl z 125 V) := fun K' => by
    have eN : (fun _ : Nat => Value.int (J 0)) = fun k => if k < 0 then (if k = 0 then Value.int (J 60) else .int (J 10)) else .int (J 0) := by
      funext k; rw [if_neg (by omega)]
    have s0 : (pl z 125 (rc 113 (fun k => if k < 0 then (if k = 0 then Value.int (J 60) else .int (J 10)) else .int (J 0)) V), J 0) = (fun i : Nat => (pl z 125 (rc 113 (fun k => if k < i then (if k = 0 then Value.int (J 60) else .int (J 10)) else .int (J 0)) V), J (i : Nat))) 0 := rfl
    rw [eN, s0]
    refine lp_for (fun i : Nat => (pl z 125 (rc 113 (fun k => if k < i then (if k = 0 then Value.int (J 60) else .int (J 10)) else .int (J 0)) V), J (i : Nat))) 0 5 _ (by omega) ?_ ?_
    · intro i _ hi kc
      show CX11_init_192 _ _ _ _ _ = _
      unfold CX11_init_192
      rw [xbr_neg (by rw [J_le (by omega) (by omega) (by omega) (by omega)]; omega), pl_gR (r := ad z 113) (by omega) (by rfl) (by rw [vM1]; rfl)]
      by_cases c : i = 0
      · rw [xbr_pos (by rw [J_eq (by omega) (by omega) (by omega) (by omega)]; omega), pl_aS (by omega) (show kd 113 = (100, 5) from rfl) hi (by omega), us_loop (f := fun k => if k = 0 then Value.int (J 60) else .int (J 10)) (if_pos c).symm, J_add]
        rfl
      · rw [xbr_neg (by rw [J_eq (by omega) (by omega) (by omega) (by omega)]; omega), pl_aS (by omega) (show kd 113 = (100, 5) from rfl) hi (by omega), us_loop (f := fun k => if k = 0 then Value.int (J 60) else .int (J 10)) (if_neg c).symm, J_add]
        rfl
    · intro kc
      show CX11_init_192 _ _ _ _ _ = _
      unfold CX11_init_192
      rw [xbr_pos (by rw [J_le (by omega) (by omega) (by omega) (by omega)]; omega), rc_self (o := 113) ((h 113 (by omega) (by omega)).trans (fz_h (by omega)))]
  have l1 : ∀ K' : Mem → Prop, lp (BX11_init_170 K' (ad z 104)) (pl z 125 (rc 110 (fun _ => .int (J 0)) (rc 113 (fun _ => .int (J 0)) V)), J 0) = K' (pl z 125 V) := fun K' => by
    have st : rc 110 (fun _ : Nat => Value.int (J 0)) (rc 113 (fun _ => .int (J 0)) V) = rc 110 (fun k => if k < 0 then Value.int (J 30) else .int (J 0)) (rc 113 (fun _ => .int (J 0)) V) := by
      congr 1
    have s0 : (pl z 125 (rc 110 (fun k => if k < 0 then Value.int (J 30) else .int (J 0)) (rc 113 (fun _ => .int (J 0)) V)), J 0) = (fun i : Nat => (pl z 125 (rc 110 (fun k => if k < i then Value.int (J 30) else .int (J 0)) (rc 113 (fun _ => .int (J 0)) V)), J (i : Nat))) 0 := rfl
    rw [st, s0]
    refine lp_for (fun i : Nat => (pl z 125 (rc 110 (fun k => if k < i then Value.int (J 30) else .int (J 0)) (rc 113 (fun _ => .int (J 0)) V)), J (i : Nat))) 0 8 _ (by omega) ?_ ?_
    · intro i _ hi kc
      show CX11_init_170 _ _ _ _ _ = _
      unfold CX11_init_170
      rw [xbr_neg (by rw [J_le (by omega) (by omega) (by omega) (by omega)]; omega), pl_gR (r := ad z 110) (by omega) (by rfl) (by rw [vM]; rfl), pl_aS (by omega) (show kd 110 = (100, 8) from rfl) hi (by omega), us_loop (f := fun _ => Value.int (J 30)) rfl, J_add]
      rfl
    · intro kc
      show CX11_init_170 _ _ _ _ _ = _
      unfold CX11_init_170
      rw [xbr_pos (by rw [J_le (by omega) (by omega) (by omega) (by omega)]; omega), rc_self (o := 110) (by rw [rc_ne (by omega)]; exact (h 110 (by omega) (by omega)).trans (fz_w (by omega))), l2]
  have e : rc 110 (fun _ : Nat => Value.int (J 0)) (rc 113 (fun _ => .int (J 0)) V) 104 = (us (us (us (us (us (us (us (us (us (us (us (us (us (us (us (us (us (us (us (us (us (fun j => defaultValue (tyX11 j)) 1 (.ref (ad z 105))) 2 (.ref (ad z 106))) 3 (.ref (ad z 107))) 4 (.ref (ad z 108))) 5 (.ref (ad z 109))) 6 (.ref (ad z 110))) 8 (.ref (ad z 111))) 9 (.ref (ad z 112))) 11 (.ref (ad z 113))) 12 (.ref (ad z 114))) 14 (.int (J (-1)))) 18 (.ref (ad z 115))) 21 (.ref (ad z 116))) 22 (.ref (ad z 117))) 23 (.ref (ad z 118))) 24 (.ref (ad z 119))) 26 (.ref (ad z 120))) 27 (.ref (ad z 121))) 28 (.ref (ad z 122))) 30 (.ref (ad z 123))) 31 (.ref (ad z 124))) := (vM _ _).trans fz_104
  generalize rc 110 (fun _ : Nat => Value.int (J 0)) (rc 113 (fun _ => .int (J 0)) V) = V2 at *
  rw [pl_nO (show kd 104 = (12, 32) from rfl)]
  unfold PX11_init
  rw [pl_tS (by omega) (by rfl), pl_nA (N := 384) (x := J 384) (show kd 105 = (100, 384) from rfl) rfl (by omega) (by omega), rc_self (o := 105) (by rw [rc_ne (by omega), ar 105 (by omega) (by omega), dv_int]), pl_pF (by omega) (by rfl), pl_nA (N := 24) (x := J 24) (show kd 106 = (100, 24) from rfl) rfl (by omega) (by omega), rc_self (o := 106) (by rw [rc_ne (by omega), ar 106 (by omega) (by omega), dv_int]), pl_pF (by omega) (by rfl), pl_nA (N := 24) (x := J 24) (show kd 107 = (100, 24) from rfl) rfl (by omega) (by omega), rc_self (o := 107) (by rw [rc_ne (by omega), ar 107 (by omega) (by omega), dv_int]), pl_pF (by omega) (by rfl), pl_nA (N := 24) (x := J 24) (show kd 108 = (100, 24) from rfl) rfl (by omega) (by omega), rc_self (o := 108) (by rw [rc_ne (by omega), ar 108 (by omega) (by omega), dv_int]), pl_pF (by omega) (by rfl), pl_nA (N := 24) (x := J 24) (show kd 109 = (100, 24) from rfl) rfl (by omega) (by omega), rc_self (o := 109) (by rw [rc_ne (by omega), ar 109 (by omega) (by omega), dv_int]), pl_pF (by omega) (by rfl), pl_nA (N := 8) (x := J 8) (show kd 110 = (100, 8) from rfl) rfl (by omega) (by omega), rc_self (o := 110) (by rw [rc_ne (by omega), ar 110 (by omega) (by omega), dv_int]), pl_pF (by omega) (by rfl), pl_nA (N := 25) (x := J 25) (show kd 111 = (100, 25) from rfl) rfl (by omega) (by omega), rc_self (o := 111) (by rw [rc_ne (by omega), ar 111 (by omega) (by omega), dv_int]), pl_pF (by omega) (by rfl), pl_nA (N := 8) (x := J 8) (show kd 112 = (100, 8) from rfl) rfl (by omega) (by omega), rc_self (o := 112) (by rw [rc_ne (by omega), ar 112 (by omega) (by omega), dv_int]), pl_pF (by omega) (by rfl), pl_nA (N := 5) (x := J 5) (show kd 113 = (100, 5) from rfl) rfl (by omega) (by omega), rc_self (o := 113) (by rw [rc_ne (by omega), ar 113 (by omega) (by omega), dv_int]), pl_pF (by omega) (by rfl), pl_nA (N := 600) (x := J 600) (show kd 114 = (100, 600) from rfl) rfl (by omega) (by omega), rc_self (o := 114) (by rw [rc_ne (by omega), ar 114 (by omega) (by omega), dv_int]), pl_pF (by omega) (by rfl), pl_pF (by omega) (by rfl), pl_nA (N := 24) (x := J 24) (show kd 115 = (100, 24) from rfl) rfl (by omega) (by omega), rc_self (o := 115) (by rw [rc_ne (by omega), ar 115 (by omega) (by omega), dv_int]), pl_pF (by omega) (by rfl), pl_nA (N := 25) (x := J 25) (show kd 116 = (100, 25) from rfl) rfl (by omega) (by omega), rc_self (o := 116) (by rw [rc_ne (by omega), ar 116 (by omega) (by omega), dv_int]), pl_pF (by omega) (by rfl), pl_nA (N := 8) (x := J 8) (show kd 117 = (100, 8) from rfl) rfl (by omega) (by omega), rc_self (o := 117) (by rw [rc_ne (by omega), ar 117 (by omega) (by omega), dv_int]), pl_pF (by omega) (by rfl), pl_nA (N := 650) (x := J 650) (show kd 118 = (100, 650) from rfl) rfl (by omega) (by omega), rc_self (o := 118) (by rw [rc_ne (by omega), ar 118 (by omega) (by omega), dv_int]), pl_pF (by omega) (by rfl), pl_nA (N := 24) (x := J 24) (show kd 119 = (100, 24) from rfl) rfl (by omega) (by omega), rc_self (o := 119) (by rw [rc_ne (by omega), ar 119 (by omega) (by omega), dv_int]), pl_pF (by omega) (by rfl), pl_nA (N := 5) (x := J 5) (show kd 120 = (100, 5) from rfl) rfl (by omega) (by omega), rc_self (o := 120) (by rw [rc_ne (by omega), ar 120 (by omega) (by omega), dv_int]), pl_pF (by omega) (by rfl), pl_nA (N := 5) (x := J 5) (show kd 121 = (100, 5) from rfl) rfl (by omega) (by omega), rc_self (o := 121) (by rw [rc_ne (by omega), ar 121 (by omega) (by omega), dv_int]), pl_pF (by omega) (by rfl), pl_nA (N := 8) (x := J 8) (show kd 122 = (100, 8) from rfl) rfl (by omega) (by omega), rc_self (o := 122) (by rw [rc_ne (by omega), ar 122 (by omega) (by omega), dv_int]), pl_pF (by omega) (by rfl), pl_nA (N := 80) (x := J 80) (show kd 123 = (100, 80) from rfl) rfl (by omega) (by omega), rc_self (o := 123) (by rw [rc_ne (by omega), ar 123 (by omega) (by omega), dv_int]), pl_pF (by omega) (by rfl), pl_nA (N := 2) (x := J 2) (show kd 124 = (101, 2) from rfl) rfl (by omega) (by omega), rc_self (o := 124) (by rw [rc_ne (by omega), ar 124 (by omega) (by omega), dv_bool]), pl_pF (by omega) (by rfl), rc_self e]
  exact l1 _
theorem init_all (K : Nat → Nat → Mem → Prop) : (nO (xM0 z) 11 13 tyX10 fun q1 M2 => PX10_init q1 M2 fun M4 => nO M4 12 32 tyX11 fun q5 M6 => PX11_init q5 M6 fun M8 => K q1 q5 M8) = K (ad z 0) (ad z 104) (lay z (fun _ => (0, 0), fun _ _ => .null, z + 125) C0) := by
  rw [pl_0 (V := fF z), i_desk rfl (fun _ _ _ => rfl), i_model (fun _ _ _ => rfl), pl_full]
end INI
