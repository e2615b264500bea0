/-! contracts (by program) -/
theorem dX6_pass_0 : decode cX6_pass 0 = .ok (.aload_n 0, 1) := by decide +kernel
theorem dX6_pass_1 : decode cX6_pass 1 = .ok (.getfield 15, 3) := by decide +kernel
theorem dX6_pass_4 : decode cX6_pass 4 = .ok (.iload_n 1, 1) := by decide +kernel
theorem dX6_pass_5 : decode cX6_pass 5 = .ok (.iload_n 2, 1) := by decide +kernel
theorem dX6_pass_6 : decode cX6_pass 6 = .ok (.invokestatic 25, 3) := by decide +kernel
theorem dX6_pass_9 : decode cX6_pass 9 = .ok (.return_, 1) := by decide +kernel
set_option maxHeartbeats 4000000 in
set_option maxRecDepth 100000 in
theorem kX6_pass (l : Launch) (z : Nat) (D : va_G) (cA : Nat → ClassId) (a0 : Nat) (x1 : Int32) (x2 : Int32) (M : Mem) (K : Mem → Prop) (h : PX6_pass a0 x1 x2 M K) : Met l yX6_pass (.code yX6_pass cX6_pass 3 none :: gtbl) ({ frames := 1, cells := 0, slots := 0, locals := 22 } : Room) (va_Pc [.ref a0, .int x1, .int x2] (xB z D cA M)) (va_Qv K (xWd z D cA) (xA z)) 0 0 (xA z) := by
  refine x_met (by decide +kernel) (Nat.le_of_ble_eq_true rfl) (L0 := [(0, .ref a0), (1, .int x1), (2, .int x2)]) rfl ?_
  intro p e s m args below meth c E hr hlk hnm
  have E : xE RX6 cX6_pass 3 D cA p s m args c := E
  replace h := h.2
  refine x_aload_n E dX6_pass_0 rfl 0 rfl ?_
  obtain ⟨hT, q1, hv, h⟩ := h
  refine x_get E flX6_15 dX6_pass_1 hT hv ?_
  clear hT hv
  refine x_iload_n E dX6_pass_4 rfl 1 rfl ?_
  refine x_iload_n E dX6_pass_5 rfl 2 rfl ?_
  refine x_callSNv (As := [.ref q1, .int x1, .int x2]) E mlX6_25 stX10_write (kX10_write l z D cA q1 x1 x2 M _ h) rfl ⟨rfl, rfl⟩ ⟨Nat.le_of_ble_eq_true rfl, Nat.le_of_ble_eq_true rfl⟩ ⟨(Nat.le_of_ble_eq_true rfl), (Nat.le_of_ble_eq_true rfl)⟩ (Nat.le_of_ble_eq_true rfl) rfl dX6_pass_6 (fun M3 h => ?_)
  exact x_vret E hr hlk dX6_pass_9 h
theorem dX6_carriedTo_0 : decode cX6_carriedTo 0 = .ok (.iconst 0, 1) := by decide +kernel
theorem dX6_carriedTo_1 : decode cX6_carriedTo 1 = .ok (.istore_n 2, 1) := by decide +kernel
theorem dX6_carriedTo_2 : decode cX6_carriedTo 2 = .ok (.iconst 0, 1) := by decide +kernel
theorem dX6_carriedTo_3 : decode cX6_carriedTo 3 = .ok (.istore_n 3, 1) := by decide +kernel
theorem dX6_carriedTo_4 : decode cX6_carriedTo 4 = .ok (.iload_n 3, 1) := by decide +kernel
theorem dX6_carriedTo_5 : decode cX6_carriedTo 5 = .ok (.bipush 24, 2) := by decide +kernel
theorem dX6_carriedTo_7 : decode cX6_carriedTo 7 = .ok (.if_icmp .ge 25, 3) := by decide +kernel
theorem dX6_carriedTo_10 : decode cX6_carriedTo 10 = .ok (.aload_n 0, 1) := by decide +kernel
theorem dX6_carriedTo_11 : decode cX6_carriedTo 11 = .ok (.iload_n 3, 1) := by decide +kernel
theorem dX6_carriedTo_12 : decode cX6_carriedTo 12 = .ok (.invokevirtual 33, 3) := by decide +kernel
theorem dX6_carriedTo_15 : decode cX6_carriedTo 15 = .ok (.aload_n 1, 1) := by decide +kernel
theorem dX6_carriedTo_16 : decode cX6_carriedTo 16 = .ok (.iload_n 3, 1) := by decide +kernel
theorem dX6_carriedTo_17 : decode cX6_carriedTo 17 = .ok (.invokevirtual 33, 3) := by decide +kernel
theorem dX6_carriedTo_20 : decode cX6_carriedTo 20 = .ok (.if_icmp .eq 6, 3) := by decide +kernel
theorem dX6_carriedTo_23 : decode cX6_carriedTo 23 = .ok (.iinc 2 1, 3) := by decide +kernel
theorem dX6_carriedTo_26 : decode cX6_carriedTo 26 = .ok (.iinc 3 1, 3) := by decide +kernel
theorem dX6_carriedTo_29 : decode cX6_carriedTo 29 = .ok (.goto (-25), 3) := by decide +kernel
theorem dX6_carriedTo_32 : decode cX6_carriedTo 32 = .ok (.iload_n 2, 1) := by decide +kernel
theorem dX6_carriedTo_33 : decode cX6_carriedTo 33 = .ok (.ireturn, 1) := by decide +kernel
set_option maxHeartbeats 4000000 in
set_option maxRecDepth 100000 in
theorem kX6_carriedTo (l : Launch) (z : Nat) (D : va_G) (cA : Nat → ClassId) (a0 : Nat) (a1 : Nat) (M : Mem) (K : Int32 → Prop) (h : PX6_carriedTo a0 a1 M K) : Met l yX6_carriedTo (.code yX6_carriedTo cX6_carriedTo 4 (some .int) :: gtbl) ({ frames := 1, cells := 0, slots := 0, locals := 21 } : Room) (va_Pc [.ref a0, .ref a1] (xB z D cA M)) (va_Qi (fun r M1 => M1 = M ∧ K r) (xWd z D cA) (xA z)) 0 0 (xA z) := by
  refine x_met (by decide +kernel) (Nat.le_of_ble_eq_true rfl) (L0 := [(0, .ref a0), (1, .ref a1)]) rfl ?_
  intro p e s m args below meth c E hr hlk hnm
  have E : xE RX6 cX6_carriedTo 4 D cA p s m args c := E
  replace h := h.2
  refine x_iconst (v := (J 0)) E dX6_carriedTo_0 (by decide) ?_
  refine x_istore_n (L' := [(2, .int (J 0)), (0, .ref a0), (1, .ref a1)]) E dX6_carriedTo_1 rfl (by decide) rfl ?_
  refine x_iconst (v := (J 0)) E dX6_carriedTo_2 (by decide) ?_
  refine x_istore_n (L' := [(3, .int (J 0)), (2, .int (J 0)), (0, .ref a0), (1, .ref a1)]) E dX6_carriedTo_3 rfl (by decide) rfl ?_
  refine x_sub (L' := [(0, .ref a0), (1, .ref a1), (2, .int (J 0)), (3, .int (J 0))]) [2, 3, 1, 0] rfl ?_
  refine lp_sound (T := fun sv => xG p l e ({ frames := 1, cells := 0, slots := 0, locals := 21 } : Room) s m args below meth c (MQ below (va_Qi (fun r M1 => M1 = M ∧ K r) (xWd z D cA) (xA z)) args s 0 0 (xA z)) 4 z D cA M (0) (0) 4 [(0, .ref a0), (1, .ref a1), (2, .int sv.1), (3, .int sv.2)] []) ?_ ((J 0), (J 0)) h
  clear h
  intro kc4 hk4 sv h
  obtain ⟨x2, x3⟩ := sv
  replace h : CX6_carriedTo_4 K M a0 a1 kc4 x2 x3 := h
  try dsimp only
  refine x_iload_n E dX6_carriedTo_4 rfl 3 rfl ?_
  refine x_bipush (v := (J 24)) E dX6_carriedTo_5 (by decide) ?_
  refine x_icmp_ge (tgt := 32) E dX6_carriedTo_7 (by decide) (fun c1 => ?_) (fun c1 => ?_)
  · replace h := xbr_t h c1
    clear c1
    refine x_iload_n E dX6_carriedTo_32 rfl 2 rfl ?_
    exact x_iret E hr hlk dX6_carriedTo_33 ⟨rfl, h⟩
  · replace h := xbr_f h c1
    clear c1
    refine x_aload_n E dX6_carriedTo_10 rfl 0 rfl ?_
    refine x_iload_n E dX6_carriedTo_11 rfl 3 rfl ?_
    refine x_callVi (T := TX6) (N := 3) (t := 7) (As := [.int x3]) E mlX6_33 inX6_shelfOf seX6_shelfOf rfl ⟨by decide, by decide⟩ (tX6_shelfOf h) (kX6_shelfOf l z D cA a0 x3 M _ h) rfl ⟨rfl, rfl⟩ ⟨Nat.le_of_ble_eq_true rfl, Nat.le_of_ble_eq_true rfl⟩ ⟨(Nat.le_of_ble_eq_true rfl), (Nat.le_of_ble_eq_true rfl)⟩ (Nat.le_of_ble_eq_true rfl) rfl dX6_carriedTo_12 (x_pure (fun r2 h => ?_))
    refine x_aload_n E dX6_carriedTo_15 rfl 1 rfl ?_
    refine x_iload_n E dX6_carriedTo_16 rfl 3 rfl ?_
    refine x_callVi (T := TX6) (N := 3) (t := 7) (As := [.int x3]) E mlX6_33 inX6_shelfOf seX6_shelfOf rfl ⟨by decide, by decide⟩ (tX6_shelfOf h) (kX6_shelfOf l z D cA a1 x3 M _ h) rfl ⟨rfl, rfl⟩ ⟨Nat.le_of_ble_eq_true rfl, Nat.le_of_ble_eq_true rfl⟩ ⟨(Nat.le_of_ble_eq_true rfl), (Nat.le_of_ble_eq_true rfl)⟩ (Nat.le_of_ble_eq_true rfl) rfl dX6_carriedTo_17 (x_pure (fun r4 h => ?_))
    refine x_icmp_eq (tgt := 26) E dX6_carriedTo_20 (by decide) (fun c6 => ?_) (fun c6 => ?_)
    · replace h := xbr_t h c6
      clear c6
      refine x_iinc (v := (x3 + (J 1))) (L' := [(3, .int (x3 + (J 1))), (0, .ref a0), (1, .ref a1), (2, .int x2)]) E dX6_carriedTo_26 3 rfl rfl (by decide) rfl ?_
      refine x_goto (tgt := 4) E dX6_carriedTo_29 (by decide) ?_
      refine x_sub (L' := [(0, .ref a0), (1, .ref a1), (2, .int x2), (3, .int (x3 + (J 1)))]) [1, 2, 3, 0] rfl ?_
      exact hk4 (x2, (x3 + (J 1))) h
    · replace h := xbr_f h c6
      clear c6
      refine x_iinc (v := (x2 + (J 1))) (L' := [(2, .int (x2 + (J 1))), (0, .ref a0), (1, .ref a1), (3, .int x3)]) E dX6_carriedTo_23 2 rfl rfl (by decide) rfl ?_
      refine x_iinc (v := (x3 + (J 1))) (L' := [(3, .int (x3 + (J 1))), (2, .int (x2 + (J 1))), (0, .ref a0), (1, .ref a1)]) E dX6_carriedTo_26 3 rfl rfl (by decide) rfl ?_
      refine x_goto (tgt := 4) E dX6_carriedTo_29 (by decide) ?_
      refine x_sub (L' := [(0, .ref a0), (1, .ref a1), (2, .int (x2 + (J 1))), (3, .int (x3 + (J 1)))]) [2, 3, 1, 0] rfl ?_
      exact hk4 ((x2 + (J 1)), (x3 + (J 1))) h
theorem dX7_init_0 : decode cX7_init 0 = .ok (.aload_n 0, 1) := by decide +kernel
theorem dX7_init_1 : decode cX7_init 1 = .ok (.invokespecial 3, 3) := by decide +kernel
theorem dX7_init_4 : decode cX7_init 4 = .ok (.aload_n 0, 1) := by decide +kernel
theorem dX7_init_5 : decode cX7_init 5 = .ok (.bipush 8, 2) := by decide +kernel
theorem dX7_init_7 : decode cX7_init 7 = .ok (.newarray .int, 2) := by decide +kernel
theorem dX7_init_9 : decode cX7_init 9 = .ok (.putfield 9, 3) := by decide +kernel
theorem dX7_init_12 : decode cX7_init 12 = .ok (.aload_n 0, 1) := by decide +kernel
theorem dX7_init_13 : decode cX7_init 13 = .ok (.bipush 8, 2) := by decide +kernel
theorem dX7_init_15 : decode cX7_init 15 = .ok (.newarray .int, 2) := by decide +kernel
theorem dX7_init_17 : decode cX7_init 17 = .ok (.putfield 15, 3) := by decide +kernel
theorem dX7_init_20 : decode cX7_init 20 = .ok (.aload_n 0, 1) := by decide +kernel
theorem dX7_init_21 : decode cX7_init 21 = .ok (.bipush 8, 2) := by decide +kernel
theorem dX7_init_23 : decode cX7_init 23 = .ok (.newarray .int, 2) := by decide +kernel
theorem dX7_init_25 : decode cX7_init 25 = .ok (.putfield 18, 3) := by decide +kernel
theorem dX7_init_28 : decode cX7_init 28 = .ok (.return_, 1) := by decide +kernel
set_option maxHeartbeats 4000000 in
set_option maxRecDepth 100000 in
theorem kX7_init (l : Launch) (z : Nat) (D : va_G) (cA : Nat → ClassId) (a0 : Nat) (M : Mem) (K : Mem → Prop) (h : PX7_init a0 M K) : Met l yX7_init (.code yX7_init cX7_init 1 none :: gtbl) ({ frames := 1, cells := 3, slots := 1950, locals := 20 } : Room) (va_Pc [.ref a0] (xB z D cA M)) (va_Qv K (xWd z D cA) (xA z)) 3 1950 (xA z) := by
  refine x_met (by decide +kernel) (Nat.le_of_ble_eq_true rfl) (L0 := [(0, .ref a0)]) rfl ?_
  intro p e s m args below meth c E hr hlk hnm
  have E : xE RX7 cX7_init 1 D cA p s m args c := E
  replace h := h.2
  refine x_aload_n E dX7_init_0 rfl 0 rfl ?_
  refine x_objInit E (gw 182 (by decide +kernel) rfl) (gw 21 (by decide +kernel) rfl) (gw 22 (by decide +kernel) rfl) dX7_init_1 (Nat.le_of_ble_eq_true rfl) (Nat.le_of_ble_eq_true rfl) ?_
  refine x_aload_n E dX7_init_4 rfl 0 rfl ?_
  refine x_bipush (v := (J 8)) E dX7_init_5 (by decide) ?_
  obtain ⟨hi, hN, h⟩ := h
  refine x_newa (q := 0) (N := 8) E (ty := .int) rfl rfl (fun _ h => by cases h) (gw 39 (by decide +kernel) rfl) hi hN (Nat.le_of_ble_eq_true rfl) (Nat.le_of_ble_eq_true rfl) (Nat.le_of_ble_eq_true rfl) dX7_init_7 (fun q1 M2 eq1 eM2 => ?_)
  replace h := h q1 M2 eq1 eM2
  clear eq1 eM2 hi hN
  obtain ⟨hT, h⟩ := h
  refine x_putF E flX7_9 (gw 183 (by decide +kernel) rfl) ⟨tyX7_ok, nmX7, rfl⟩ rfl hnm (by decide +kernel) rfl rfl dX7_init_9 hT (fun M3 eM3 => ?_)
  replace h := h M3 eM3
  clear hT eM3
  refine x_aload_n E dX7_init_12 rfl 0 rfl ?_
  refine x_bipush (v := (J 8)) E dX7_init_13 (by decide) ?_
  obtain ⟨hi, hN, h⟩ := h
  refine x_newa (q := 0) (N := 8) E (ty := .int) rfl rfl (fun _ h => by cases h) (gw 39 (by decide +kernel) rfl) hi hN (Nat.le_of_ble_eq_true rfl) (Nat.le_of_ble_eq_true rfl) (Nat.le_of_ble_eq_true rfl) dX7_init_15 (fun q4 M5 eq4 eM5 => ?_)
  replace h := h q4 M5 eq4 eM5
  clear eq4 eM5 hi hN
  obtain ⟨hT, h⟩ := h
  refine x_putF E flX7_15 (gw 184 (by decide +kernel) rfl) ⟨tyX7_ok, nmX7, rfl⟩ rfl hnm (by decide +kernel) rfl rfl dX7_init_17 hT (fun M6 eM6 => ?_)
  replace h := h M6 eM6
  clear hT eM6
  refine x_aload_n E dX7_init_20 rfl 0 rfl ?_
  refine x_bipush (v := (J 8)) E dX7_init_21 (by decide) ?_
  obtain ⟨hi, hN, h⟩ := h
  refine x_newa (q := 0) (N := 8) E (ty := .int) rfl rfl (fun _ h => by cases h) (gw 39 (by decide +kernel) rfl) hi hN (Nat.le_of_ble_eq_true rfl) (Nat.le_of_ble_eq_true rfl) (Nat.le_of_ble_eq_true rfl) dX7_init_23 (fun q7 M8 eq7 eM8 => ?_)
  replace h := h q7 M8 eq7 eM8
  clear eq7 eM8 hi hN
  obtain ⟨hT, h⟩ := h
  refine x_putF E flX7_18 (gw 185 (by decide +kernel) rfl) ⟨tyX7_ok, nmX7, rfl⟩ rfl hnm (by decide +kernel) rfl rfl dX7_init_25 hT (fun M9 eM9 => ?_)
  replace h := h M9 eM9
  clear hT eM9
  refine x_widen (k' := 3) (n' := 1950) (Nat.le_of_ble_eq_true rfl) (Nat.le_of_ble_eq_true rfl) ?_
  exact x_vret E hr hlk dX7_init_28 h
theorem dX7_begin_0 : decode cX7_begin 0 = .ok (.aload_n 0, 1) := by decide +kernel
theorem dX7_begin_1 : decode cX7_begin 1 = .ok (.iconst 0, 1) := by decide +kernel
theorem dX7_begin_2 : decode cX7_begin 2 = .ok (.putfield 21, 3) := by decide +kernel
theorem dX7_begin_5 : decode cX7_begin 5 = .ok (.iconst 0, 1) := by decide +kernel
theorem dX7_begin_6 : decode cX7_begin 6 = .ok (.istore 5, 2) := by decide +kernel
theorem dX7_begin_8 : decode cX7_begin 8 = .ok (.iload 5, 2) := by decide +kernel
theorem dX7_begin_10 : decode cX7_begin 10 = .ok (.bipush 8, 2) := by decide +kernel
theorem dX7_begin_12 : decode cX7_begin 12 = .ok (.if_icmp .ge 60, 3) := by decide +kernel
theorem dX7_begin_15 : decode cX7_begin 15 = .ok (.aload_n 3, 1) := by decide +kernel
theorem dX7_begin_16 : decode cX7_begin 16 = .ok (.aload_n 1, 1) := by decide +kernel
theorem dX7_begin_17 : decode cX7_begin 17 = .ok (.aload_n 2, 1) := by decide +kernel
theorem dX7_begin_18 : decode cX7_begin 18 = .ok (.iload 4, 2) := by decide +kernel
theorem dX7_begin_20 : decode cX7_begin 20 = .ok (.iload 5, 2) := by decide +kernel
theorem dX7_begin_22 : decode cX7_begin 22 = .ok (.invokevirtual 25, 3) := by decide +kernel
theorem dX7_begin_25 : decode cX7_begin 25 = .ok (.istore 6, 2) := by decide +kernel
theorem dX7_begin_27 : decode cX7_begin 27 = .ok (.aload_n 0, 1) := by decide +kernel
theorem dX7_begin_28 : decode cX7_begin 28 = .ok (.getfield 9, 3) := by decide +kernel
theorem dX7_begin_31 : decode cX7_begin 31 = .ok (.iload 5, 2) := by decide +kernel
theorem dX7_begin_33 : decode cX7_begin 33 = .ok (.iload 6, 2) := by decide +kernel
theorem dX7_begin_35 : decode cX7_begin 35 = .ok (.invokestatic 31, 3) := by decide +kernel
theorem dX7_begin_38 : decode cX7_begin 38 = .ok (.iload 6, 2) := by decide +kernel
theorem dX7_begin_40 : decode cX7_begin 40 = .ok (.ifCond .le 26, 3) := by decide +kernel
theorem dX7_begin_43 : decode cX7_begin 43 = .ok (.aload_n 0, 1) := by decide +kernel
theorem dX7_begin_44 : decode cX7_begin 44 = .ok (.getfield 15, 3) := by decide +kernel
theorem dX7_begin_47 : decode cX7_begin 47 = .ok (.aload_n 0, 1) := by decide +kernel
theorem dX7_begin_48 : decode cX7_begin 48 = .ok (.getfield 21, 3) := by decide +kernel
theorem dX7_begin_51 : decode cX7_begin 51 = .ok (.iload 5, 2) := by decide +kernel
theorem dX7_begin_53 : decode cX7_begin 53 = .ok (.invokestatic 31, 3) := by decide +kernel
theorem dX7_begin_56 : decode cX7_begin 56 = .ok (.aload_n 0, 1) := by decide +kernel
theorem dX7_begin_57 : decode cX7_begin 57 = .ok (.dup, 1) := by decide +kernel
theorem dX7_begin_58 : decode cX7_begin 58 = .ok (.getfield 21, 3) := by decide +kernel
theorem dX7_begin_61 : decode cX7_begin 61 = .ok (.iconst 1, 1) := by decide +kernel
theorem dX7_begin_62 : decode cX7_begin 62 = .ok (.iadd, 1) := by decide +kernel
theorem dX7_begin_63 : decode cX7_begin 63 = .ok (.putfield 21, 3) := by decide +kernel
theorem dX7_begin_66 : decode cX7_begin 66 = .ok (.iinc 5 1, 3) := by decide +kernel
theorem dX7_begin_69 : decode cX7_begin 69 = .ok (.goto (-61), 3) := by decide +kernel
theorem dX7_begin_72 : decode cX7_begin 72 = .ok (.return_, 1) := by decide +kernel
set_option maxHeartbeats 4000000 in
set_option maxRecDepth 100000 in
theorem kX7_begin (l : Launch) (z : Nat) (D : va_G) (cA : Nat → ClassId) (a0 : Nat) (a1 : Nat) (a2 : Nat) (a3 : Nat) (x4 : Int32) (M : Mem) (K : Mem → Prop) (h : PX7_begin a0 a1 a2 a3 x4 M K) : Met l yX7_begin (.code yX7_begin cX7_begin 7 none :: gtbl) ({ frames := 5, cells := 0, slots := 0, locals := 122 } : Room) (va_Pc [.ref a0, .ref a1, .ref a2, .ref a3, .int x4] (xB z D cA M)) (va_Qv K (xWd z D cA) (xA z)) 0 0 (xA z) := by
  refine x_met (by decide +kernel) (Nat.le_of_ble_eq_true rfl) (L0 := [(0, .ref a0), (1, .ref a1), (2, .ref a2), (3, .ref a3), (4, .int x4)]) rfl ?_
  intro p e s m args below meth c E hr hlk hnm
  have E : xE RX7 cX7_begin 7 D cA p s m args c := E
  replace h := h.2
  refine x_aload_n E dX7_begin_0 rfl 0 rfl ?_
  refine x_iconst (v := (J 0)) E dX7_begin_1 (by decide) ?_
  obtain ⟨hT, h⟩ := h
  refine x_put E flX7_21 ⟨tyX7_ok, nmX7, rfl⟩ (by decide +kernel) rfl rfl dX7_begin_2 hT (fun M1 eM1 => ?_)
  replace h := h M1 eM1
  clear hT eM1
  refine x_iconst (v := (J 0)) E dX7_begin_5 (by decide) ?_
  refine x_istore (L' := [(5, .int (J 0)), (0, .ref a0), (1, .ref a1), (2, .ref a2), (3, .ref a3), (4, .int x4)]) E dX7_begin_6 (by decide) rfl ?_
  refine x_sub (L' := [(0, .ref a0), (1, .ref a1), (2, .ref a2), (3, .ref a3), (4, .int x4), (5, .int (J 0))]) [1, 2, 3, 4, 5, 0] rfl ?_
  refine lp_sound (T := fun sv => xG p l e ({ frames := 5, cells := 0, slots := 0, locals := 122 } : Room) s m args below meth c (MQ below (va_Qv K (xWd z D cA) (xA z)) args s 0 0 (xA z)) 7 z D cA sv.1 (0) (0) 8 [(0, .ref a0), (1, .ref a1), (2, .ref a2), (3, .ref a3), (4, .int x4), (5, .int sv.2)] []) ?_ (M1, (J 0)) h
  clear h
  intro kc8 hk8 sv h
  obtain ⟨M, x5⟩ := sv
  replace h : CX7_begin_8 K a0 a1 a2 a3 x4 kc8 M x5 := h
  try dsimp only
  refine x_iload E dX7_begin_8 5 rfl ?_
  refine x_bipush (v := (J 8)) E dX7_begin_10 (by decide) ?_
  refine x_icmp_ge (tgt := 72) E dX7_begin_12 (by decide) (fun c2 => ?_) (fun c2 => ?_)
  · replace h := xbr_t h c2
    clear c2
    exact x_vret E hr hlk dX7_begin_72 h
  · replace h := xbr_f h c2
    clear c2
    refine x_aload_n E dX7_begin_15 rfl 3 rfl ?_
    refine x_aload_n E dX7_begin_16 rfl 1 rfl ?_
    refine x_aload_n E dX7_begin_17 rfl 2 rfl ?_
    refine x_iload E dX7_begin_18 4 rfl ?_
    refine x_iload E dX7_begin_20 5 rfl ?_
    refine x_callVi (T := TX3) (N := 1) (t := 4) (As := [.ref a1, .ref a2, .int x4, .int x5]) E mlX7_25 inX3_chance seX3_chance rfl ⟨by decide, by decide⟩ (tX3_chance h) (kX3_chance l z D cA a3 a1 a2 x4 x5 M _ h) rfl ⟨rfl, rfl⟩ ⟨Nat.le_of_ble_eq_true rfl, Nat.le_of_ble_eq_true rfl⟩ ⟨(Nat.le_of_ble_eq_true rfl), (Nat.le_of_ble_eq_true rfl)⟩ (Nat.le_of_ble_eq_true rfl) rfl dX7_begin_22 (x_pure (fun r3 h => ?_))
    refine x_istore (L' := [(6, .int r3), (0, .ref a0), (1, .ref a1), (2, .ref a2), (3, .ref a3), (4, .int x4), (5, .int x5)]) E dX7_begin_25 (by decide) rfl ?_
    refine x_aload_n E dX7_begin_27 rfl 1 rfl ?_
    obtain ⟨hT, q5, hv, h⟩ := h
    refine x_get E flX7_9 dX7_begin_28 hT hv ?_
    clear hT hv
    refine x_iload E dX7_begin_31 6 rfl ?_
    refine x_iload E dX7_begin_33 0 rfl ?_
    refine x_callSNv (As := [.ref q5, .int x5, .int r3]) E mlX7_31 stX10_write (kX10_write l z D cA q5 x5 r3 M _ h) rfl ⟨rfl, rfl⟩ ⟨Nat.le_of_ble_eq_true rfl, Nat.le_of_ble_eq_true rfl⟩ ⟨(Nat.le_of_ble_eq_true rfl), (Nat.le_of_ble_eq_true rfl)⟩ (Nat.le_of_ble_eq_true rfl) rfl dX7_begin_35 (fun M7 h => ?_)
    refine x_iload E dX7_begin_38 0 rfl ?_
    refine x_if_le (tgt := 66) E dX7_begin_40 (by decide) (fun c8 => ?_) (fun c8 => ?_)
    · replace h := xbr_t h c8
      clear c8
      refine x_iinc (v := (x5 + (J 1))) (L' := [(5, .int (x5 + (J 1))), (6, .int r3), (0, .ref a0), (1, .ref a1), (2, .ref a2), (3, .ref a3), (4, .int x4)]) E dX7_begin_66 6 rfl rfl (by decide) rfl ?_
      refine x_goto (tgt := 8) E dX7_begin_69 (by decide) ?_
      refine x_sub (L' := [(0, .ref a0), (1, .ref a1), (2, .ref a2), (3, .ref a3), (4, .int x4), (5, .int (x5 + (J 1)))]) [2, 3, 4, 5, 6, 0] rfl ?_
      exact hk8 (M7, (x5 + (J 1))) h
    · replace h := xbr_f h c8
      clear c8
      refine x_aload_n E dX7_begin_43 rfl 1 rfl ?_
      obtain ⟨hT, q9, hv, h⟩ := h
      refine x_get E flX7_15 dX7_begin_44 hT hv ?_
      clear hT hv
      refine x_aload_n E dX7_begin_47 rfl 1 rfl ?_
      obtain ⟨hT, v10, hv, h⟩ := h
      refine x_get E flX7_21 dX7_begin_48 hT hv ?_
      clear hT hv
      refine x_iload E dX7_begin_51 6 rfl ?_
      refine x_callSNv (As := [.ref q9, .int v10, .int x5]) E mlX7_31 stX10_write (kX10_write l z D cA q9 v10 x5 M7 _ h) rfl ⟨rfl, rfl⟩ ⟨Nat.le_of_ble_eq_true rfl, Nat.le_of_ble_eq_true rfl⟩ ⟨(Nat.le_of_ble_eq_true rfl), (Nat.le_of_ble_eq_true rfl)⟩ (Nat.le_of_ble_eq_true rfl) rfl dX7_begin_53 (fun M12 h => ?_)
      refine x_aload_n E dX7_begin_56 rfl 1 rfl ?_
      refine x_dup E dX7_begin_57 rfl ?_
      obtain ⟨hT, v13, hv, h⟩ := h
      refine x_get E flX7_21 dX7_begin_58 hT hv ?_
      clear hT hv
      refine x_iconst (v := (J 1)) E dX7_begin_61 (by decide) ?_
      refine x_iadd E dX7_begin_62 ?_
      obtain ⟨hT, h⟩ := h
      refine x_put E flX7_21 ⟨tyX7_ok, nmX7, rfl⟩ (by decide +kernel) rfl rfl dX7_begin_63 hT (fun M14 eM14 => ?_)
      replace h := h M14 eM14
      clear hT eM14
      refine x_iinc (v := (x5 + (J 1))) (L' := [(5, .int (x5 + (J 1))), (6, .int r3), (0, .ref a0), (1, .ref a1), (2, .ref a2), (3, .ref a3), (4, .int x4)]) E dX7_begin_66 6 rfl rfl (by decide) rfl ?_
      refine x_goto (tgt := 8) E dX7_begin_69 (by decide) ?_
      refine x_sub (L' := [(0, .ref a0), (1, .ref a1), (2, .ref a2), (3, .ref a3), (4, .int x4), (5, .int (x5 + (J 1)))]) [2, 3, 4, 5, 6, 0] rfl ?_
      exact hk8 (M14, (x5 + (J 1))) h
theorem dX7_costOfTour_0 : decode cX7_costOfTour 0 = .ok (.iconst 0, 1) := by decide +kernel
theorem dX7_costOfTour_1 : decode cX7_costOfTour 1 = .ok (.istore_n 2, 1) := by decide +kernel
theorem dX7_costOfTour_2 : decode cX7_costOfTour 2 = .ok (.iconst 0, 1) := by decide +kernel
theorem dX7_costOfTour_3 : decode cX7_costOfTour 3 = .ok (.istore_n 3, 1) := by decide +kernel
theorem dX7_costOfTour_4 : decode cX7_costOfTour 4 = .ok (.iconst 0, 1) := by decide +kernel
theorem dX7_costOfTour_5 : decode cX7_costOfTour 5 = .ok (.istore 4, 2) := by decide +kernel
theorem dX7_costOfTour_7 : decode cX7_costOfTour 7 = .ok (.iconst 0, 1) := by decide +kernel
theorem dX7_costOfTour_8 : decode cX7_costOfTour 8 = .ok (.istore 5, 2) := by decide +kernel
theorem dX7_costOfTour_10 : decode cX7_costOfTour 10 = .ok (.iload 5, 2) := by decide +kernel
theorem dX7_costOfTour_12 : decode cX7_costOfTour 12 = .ok (.aload_n 0, 1) := by decide +kernel
theorem dX7_costOfTour_13 : decode cX7_costOfTour 13 = .ok (.getfield 21, 3) := by decide +kernel
theorem dX7_costOfTour_16 : decode cX7_costOfTour 16 = .ok (.if_icmp .ge 60, 3) := by decide +kernel
theorem dX7_costOfTour_19 : decode cX7_costOfTour 19 = .ok (.aload_n 0, 1) := by decide +kernel
theorem dX7_costOfTour_20 : decode cX7_costOfTour 20 = .ok (.getfield 15, 3) := by decide +kernel
theorem dX7_costOfTour_23 : decode cX7_costOfTour 23 = .ok (.iload 5, 2) := by decide +kernel
theorem dX7_costOfTour_25 : decode cX7_costOfTour 25 = .ok (.invokestatic 50, 3) := by decide +kernel
theorem dX7_costOfTour_28 : decode cX7_costOfTour 28 = .ok (.istore 6, 2) := by decide +kernel
theorem dX7_costOfTour_30 : decode cX7_costOfTour 30 = .ok (.iload_n 3, 1) := by decide +kernel
theorem dX7_costOfTour_31 : decode cX7_costOfTour 31 = .ok (.iload 6, 2) := by decide +kernel
theorem dX7_costOfTour_33 : decode cX7_costOfTour 33 = .ok (.iload_n 2, 1) := by decide +kernel
theorem dX7_costOfTour_34 : decode cX7_costOfTour 34 = .ok (.isub, 1) := by decide +kernel
theorem dX7_costOfTour_35 : decode cX7_costOfTour 35 = .ok (.invokestatic 54, 3) := by decide +kernel
theorem dX7_costOfTour_38 : decode cX7_costOfTour 38 = .ok (.iconst 1, 1) := by decide +kernel
theorem dX7_costOfTour_39 : decode cX7_costOfTour 39 = .ok (.aload_n 1, 1) := by decide +kernel
theorem dX7_costOfTour_40 : decode cX7_costOfTour 40 = .ok (.iload 6, 2) := by decide +kernel
theorem dX7_costOfTour_42 : decode cX7_costOfTour 42 = .ok (.invokevirtual 60, 3) := by decide +kernel
theorem dX7_costOfTour_45 : decode cX7_costOfTour 45 = .ok (.invokestatic 65, 3) := by decide +kernel
theorem dX7_costOfTour_48 : decode cX7_costOfTour 48 = .ok (.iadd, 1) := by decide +kernel
theorem dX7_costOfTour_49 : decode cX7_costOfTour 49 = .ok (.iadd, 1) := by decide +kernel
theorem dX7_costOfTour_50 : decode cX7_costOfTour 50 = .ok (.istore_n 3, 1) := by decide +kernel
theorem dX7_costOfTour_51 : decode cX7_costOfTour 51 = .ok (.iload 4, 2) := by decide +kernel
theorem dX7_costOfTour_53 : decode cX7_costOfTour 53 = .ok (.aload_n 0, 1) := by decide +kernel
theorem dX7_costOfTour_54 : decode cX7_costOfTour 54 = .ok (.getfield 9, 3) := by decide +kernel
theorem dX7_costOfTour_57 : decode cX7_costOfTour 57 = .ok (.iload 6, 2) := by decide +kernel
theorem dX7_costOfTour_59 : decode cX7_costOfTour 59 = .ok (.invokestatic 50, 3) := by decide +kernel
theorem dX7_costOfTour_62 : decode cX7_costOfTour 62 = .ok (.iload_n 3, 1) := by decide +kernel
theorem dX7_costOfTour_63 : decode cX7_costOfTour 63 = .ok (.imul, 1) := by decide +kernel
theorem dX7_costOfTour_64 : decode cX7_costOfTour 64 = .ok (.iadd, 1) := by decide +kernel
theorem dX7_costOfTour_65 : decode cX7_costOfTour 65 = .ok (.istore 4, 2) := by decide +kernel
theorem dX7_costOfTour_67 : decode cX7_costOfTour 67 = .ok (.iload 6, 2) := by decide +kernel
theorem dX7_costOfTour_69 : decode cX7_costOfTour 69 = .ok (.istore_n 2, 1) := by decide +kernel
theorem dX7_costOfTour_70 : decode cX7_costOfTour 70 = .ok (.iinc 5 1, 3) := by decide +kernel
theorem dX7_costOfTour_73 : decode cX7_costOfTour 73 = .ok (.goto (-63), 3) := by decide +kernel
theorem dX7_costOfTour_76 : decode cX7_costOfTour 76 = .ok (.iload 4, 2) := by decide +kernel
theorem dX7_costOfTour_78 : decode cX7_costOfTour 78 = .ok (.sipush 1000, 3) := by decide +kernel
theorem dX7_costOfTour_81 : decode cX7_costOfTour 81 = .ok (.idiv, 1) := by decide +kernel
theorem dX7_costOfTour_82 : decode cX7_costOfTour 82 = .ok (.ireturn, 1) := by decide +kernel
set_option maxHeartbeats 4000000 in
set_option maxRecDepth 100000 in
theorem kX7_costOfTour (l : Launch) (z : Nat) (D : va_G) (cA : Nat → ClassId) (a0 : Nat) (a1 : Nat) (M : Mem) (K : Int32 → Prop) (h : PX7_costOfTour a0 a1 M K) : Met l yX7_costOfTour (.code yX7_costOfTour cX7_costOfTour 7 (some .int) :: gtbl) ({ frames := 1, cells := 0, slots := 0, locals := 26 } : Room) (va_Pc [.ref a0, .ref a1] (xB z D cA M)) (va_Qi (fun r M1 => M1 = M ∧ K r) (xWd z D cA) (xA z)) 0 0 (xA z) := by
  refine x_met (by decide +kernel) (Nat.le_of_ble_eq_true rfl) (L0 := [(0, .ref a0), (1, .ref a1)]) rfl ?_
  intro p e s m args below meth c E hr hlk hnm
  have E : xE RX7 cX7_costOfTour 7 D cA p s m args c := E
  replace h := h.2
  refine x_iconst (v := (J 0)) E dX7_costOfTour_0 (by decide) ?_
  refine x_istore_n (L' := [(2, .int (J 0)), (0, .ref a0), (1, .ref a1)]) E dX7_costOfTour_1 rfl (by decide) rfl ?_
  refine x_iconst (v := (J 0)) E dX7_costOfTour_2 (by decide) ?_
  refine x_istore_n (L' := [(3, .int (J 0)), (2, .int (J 0)), (0, .ref a0), (1, .ref a1)]) E dX7_costOfTour_3 rfl (by decide) rfl ?_
  refine x_iconst (v := (J 0)) E dX7_costOfTour_4 (by decide) ?_
  refine x_istore (L' := [(4, .int (J 0)), (3, .int (J 0)), (2, .int (J 0)), (0, .ref a0), (1, .ref a1)]) E dX7_costOfTour_5 (by decide) rfl ?_
  refine x_iconst (v := (J 0)) E dX7_costOfTour_7 (by decide) ?_
  refine x_istore (L' := [(5, .int (J 0)), (4, .int (J 0)), (3, .int (J 0)), (2, .int (J 0)), (0, .ref a0), (1, .ref a1)]) E dX7_costOfTour_8 (by decide) rfl ?_
  refine x_sub (L' := [(0, .ref a0), (1, .ref a1), (2, .int (J 0)), (3, .int (J 0)), (4, .int (J 0)), (5, .int (J 0))]) [4, 5, 3, 2, 1, 0] rfl ?_
  refine lp_sound (T := fun sv => xG p l e ({ frames := 1, cells := 0, slots := 0, locals := 26 } : Room) s m args below meth c (MQ below (va_Qi (fun r M1 => M1 = M ∧ K r) (xWd z D cA) (xA z)) args s 0 0 (xA z)) 7 z D cA M (0) (0) 10 [(0, .ref a0), (1, .ref a1), (2, .int sv.1), (3, .int sv.2.1), (4, .int sv.2.2.1), (5, .int sv.2.2.2)] []) ?_ ((J 0), (J 0), (J 0), (J 0)) h
  clear h
  intro kc10 hk10 sv h
  obtain ⟨x2, x3, x4, x5⟩ := sv
  replace h : CX7_costOfTour_10 K M a0 a1 kc10 x2 x3 x4 x5 := h
  try dsimp only
  refine x_iload E dX7_costOfTour_10 5 rfl ?_
  refine x_aload_n E dX7_costOfTour_12 rfl 0 rfl ?_
  obtain ⟨hT, v1, hv, h⟩ := h
  refine x_get E flX7_21 dX7_costOfTour_13 hT hv ?_
  clear hT hv
  refine x_icmp_ge (tgt := 76) E dX7_costOfTour_16 (by decide) (fun c2 => ?_) (fun c2 => ?_)
  · replace h := xbr_t h c2
    clear c2
    refine x_iload E dX7_costOfTour_76 4 rfl ?_
    refine x_sipush (v := (J 1000)) E dX7_costOfTour_78 (by decide) ?_
    refine x_idiv E dX7_costOfTour_81 (by decide) ?_
    exact x_iret E hr hlk dX7_costOfTour_82 ⟨rfl, h⟩
  · replace h := xbr_f h c2
    clear c2
    refine x_aload_n E dX7_costOfTour_19 rfl 0 rfl ?_
    obtain ⟨hT, q3, hv, h⟩ := h
    refine x_get E flX7_15 dX7_costOfTour_20 hT hv ?_
    clear hT hv
    refine x_iload E dX7_costOfTour_23 5 rfl ?_
    refine x_callSNi (As := [.ref q3, .int x5]) E mlX7_50 stX10_entry (kX10_entry l z D cA q3 x5 M _ h) rfl ⟨rfl, rfl⟩ ⟨Nat.le_of_ble_eq_true rfl, Nat.le_of_ble_eq_true rfl⟩ ⟨(Nat.le_of_ble_eq_true rfl), (Nat.le_of_ble_eq_true rfl)⟩ (Nat.le_of_ble_eq_true rfl) rfl dX7_costOfTour_25 (x_pure (fun r4 h => ?_))
    refine x_istore (L' := [(6, .int r4), (0, .ref a0), (1, .ref a1), (2, .int x2), (3, .int x3), (4, .int x4), (5, .int x5)]) E dX7_costOfTour_28 (by decide) rfl ?_
    refine x_iload_n E dX7_costOfTour_30 rfl 4 rfl ?_
    refine x_iload E dX7_costOfTour_31 0 rfl ?_
    refine x_iload_n E dX7_costOfTour_33 rfl 3 rfl ?_
    refine x_isub E dX7_costOfTour_34 ?_
    refine x_mabs E (gw 789 (by decide +kernel) rfl) (gw 790 (by decide +kernel) rfl) (gw 3 (by decide +kernel) rfl) (gw 791 (by decide +kernel) rfl) dX7_costOfTour_35 (Nat.le_of_ble_eq_true rfl) (Nat.le_of_ble_eq_true rfl) (Nat.le_of_ble_eq_true rfl) (Nat.le_of_ble_eq_true rfl) ?_
    refine x_iconst (v := (J 1)) E dX7_costOfTour_38 (by decide) ?_
    refine x_aload_n E dX7_costOfTour_39 rfl 2 rfl ?_
    refine x_iload E dX7_costOfTour_40 0 rfl ?_
    refine x_callVi (T := TX6) (N := 3) (t := 7) (As := [.int r4]) E mlX7_60 inX6_amount seX6_amount rfl ⟨by decide, by decide⟩ (tX6_amount h) (kX6_amount l z D cA a1 r4 M _ h) rfl ⟨rfl, rfl⟩ ⟨Nat.le_of_ble_eq_true rfl, Nat.le_of_ble_eq_true rfl⟩ ⟨(Nat.le_of_ble_eq_true rfl), (Nat.le_of_ble_eq_true rfl)⟩ (Nat.le_of_ble_eq_true rfl) rfl dX7_costOfTour_42 (x_pure (fun r6 h => ?_))
    refine x_mmax E (gw 793 (by decide +kernel) rfl) (gw 30 (by decide +kernel) rfl) (gw 3 (by decide +kernel) rfl) (gw 31 (by decide +kernel) rfl) dX7_costOfTour_45 (Nat.le_of_ble_eq_true rfl) (Nat.le_of_ble_eq_true rfl) (Nat.le_of_ble_eq_true rfl) (Nat.le_of_ble_eq_true rfl) ?_
    refine x_iadd E dX7_costOfTour_48 ?_
    refine x_iadd E dX7_costOfTour_49 ?_
    obtain ⟨y8, ey8, h⟩ := h
    refine x_top (v := .int y8) (congrArg _ ey8) ?_
    clear ey8
    refine x_istore_n (L' := [(3, .int y8), (6, .int r4), (0, .ref a0), (1, .ref a1), (2, .int x2), (4, .int x4), (5, .int x5)]) E dX7_costOfTour_50 rfl (by decide) rfl ?_
    refine x_iload E dX7_costOfTour_51 5 rfl ?_
    refine x_aload_n E dX7_costOfTour_53 rfl 2 rfl ?_
    obtain ⟨hT, q9, hv, h⟩ := h
    refine x_get E flX7_9 dX7_costOfTour_54 hT hv ?_
    clear hT hv
    refine x_iload E dX7_costOfTour_57 1 rfl ?_
    refine x_callSNi (As := [.ref q9, .int r4]) E mlX7_50 stX10_entry (kX10_entry l z D cA q9 r4 M _ h) rfl ⟨rfl, rfl⟩ ⟨Nat.le_of_ble_eq_true rfl, Nat.le_of_ble_eq_true rfl⟩ ⟨(Nat.le_of_ble_eq_true rfl), (Nat.le_of_ble_eq_true rfl)⟩ (Nat.le_of_ble_eq_true rfl) rfl dX7_costOfTour_59 (x_pure (fun r10 h => ?_))
    refine x_iload_n E dX7_costOfTour_62 rfl 0 rfl ?_
    refine x_imul E dX7_costOfTour_63 ?_
    refine x_iadd E dX7_costOfTour_64 ?_
    obtain ⟨y12, ey12, h⟩ := h
    refine x_top (v := .int y12) (congrArg _ ey12) ?_
    clear ey12
    refine x_istore (L' := [(4, .int y12), (3, .int y8), (6, .int r4), (0, .ref a0), (1, .ref a1), (2, .int x2), (5, .int x5)]) E dX7_costOfTour_65 (by decide) rfl ?_
    refine x_iload E dX7_costOfTour_67 2 rfl ?_
    refine x_istore_n (L' := [(2, .int r4), (4, .int y12), (3, .int y8), (6, .int r4), (0, .ref a0), (1, .ref a1), (5, .int x5)]) E dX7_costOfTour_69 rfl (by decide) rfl ?_
    refine x_iinc (v := (x5 + (J 1))) (L' := [(5, .int (x5 + (J 1))), (2, .int r4), (4, .int y12), (3, .int y8), (6, .int r4), (0, .ref a0), (1, .ref a1)]) E dX7_costOfTour_70 6 rfl rfl (by decide) rfl ?_
    refine x_goto (tgt := 10) E dX7_costOfTour_73 (by decide) ?_
    refine x_sub (L' := [(0, .ref a0), (1, .ref a1), (2, .int r4), (3, .int y8), (4, .int y12), (5, .int (x5 + (J 1)))]) [5, 6, 1, 3, 2, 0] rfl ?_
    exact hk10 (r4, y8, y12, (x5 + (J 1))) h
theorem dX7_keepBest_0 : decode cX7_keepBest 0 = .ok (.aload_n 0, 1) := by decide +kernel
theorem dX7_keepBest_1 : decode cX7_keepBest 1 = .ok (.iload_n 1, 1) := by decide +kernel
theorem dX7_keepBest_2 : decode cX7_keepBest 2 = .ok (.putfield 47, 3) := by decide +kernel
theorem dX7_keepBest_5 : decode cX7_keepBest 5 = .ok (.iconst 0, 1) := by decide +kernel
theorem dX7_keepBest_6 : decode cX7_keepBest 6 = .ok (.istore_n 2, 1) := by decide +kernel
theorem dX7_keepBest_7 : decode cX7_keepBest 7 = .ok (.iload_n 2, 1) := by decide +kernel
theorem dX7_keepBest_8 : decode cX7_keepBest 8 = .ok (.aload_n 0, 1) := by decide +kernel
theorem dX7_keepBest_9 : decode cX7_keepBest 9 = .ok (.getfield 21, 3) := by decide +kernel
theorem dX7_keepBest_12 : decode cX7_keepBest 12 = .ok (.if_icmp .ge 25, 3) := by decide +kernel
theorem dX7_keepBest_15 : decode cX7_keepBest 15 = .ok (.aload_n 0, 1) := by decide +kernel
theorem dX7_keepBest_16 : decode cX7_keepBest 16 = .ok (.getfield 18, 3) := by decide +kernel
theorem dX7_keepBest_19 : decode cX7_keepBest 19 = .ok (.iload_n 2, 1) := by decide +kernel
theorem dX7_keepBest_20 : decode cX7_keepBest 20 = .ok (.aload_n 0, 1) := by decide +kernel
theorem dX7_keepBest_21 : decode cX7_keepBest 21 = .ok (.getfield 15, 3) := by decide +kernel
theorem dX7_keepBest_24 : decode cX7_keepBest 24 = .ok (.iload_n 2, 1) := by decide +kernel
theorem dX7_keepBest_25 : decode cX7_keepBest 25 = .ok (.invokestatic 50, 3) := by decide +kernel
theorem dX7_keepBest_28 : decode cX7_keepBest 28 = .ok (.invokestatic 31, 3) := by decide +kernel
theorem dX7_keepBest_31 : decode cX7_keepBest 31 = .ok (.iinc 2 1, 3) := by decide +kernel
theorem dX7_keepBest_34 : decode cX7_keepBest 34 = .ok (.goto (-27), 3) := by decide +kernel
theorem dX7_keepBest_37 : decode cX7_keepBest 37 = .ok (.return_, 1) := by decide +kernel
set_option maxHeartbeats 4000000 in
set_option maxRecDepth 100000 in
theorem kX7_keepBest (l : Launch) (z : Nat) (D : va_G) (cA : Nat → ClassId) (a0 : Nat) (x1 : Int32) (M : Mem) (K : Mem → Prop) (h : PX7_keepBest a0 x1 M K) : Met l yX7_keepBest (.code yX7_keepBest cX7_keepBest 3 none :: gtbl) ({ frames := 1, cells := 0, slots := 0, locals := 22 } : Room) (va_Pc [.ref a0, .int x1] (xB z D cA M)) (va_Qv K (xWd z D cA) (xA z)) 0 0 (xA z) := by
  refine x_met (by decide +kernel) (Nat.le_of_ble_eq_true rfl) (L0 := [(0, .ref a0), (1, .int x1)]) rfl ?_
  intro p e s m args below meth c E hr hlk hnm
  have E : xE RX7 cX7_keepBest 3 D cA p s m args c := E
  replace h := h.2
  refine x_aload_n E dX7_keepBest_0 rfl 0 rfl ?_
  refine x_iload_n E dX7_keepBest_1 rfl 1 rfl ?_
  obtain ⟨hT, h⟩ := h
  refine x_put E flX7_47 ⟨tyX7_ok, nmX7, rfl⟩ (by decide +kernel) rfl rfl dX7_keepBest_2 hT (fun M1 eM1 => ?_)
  replace h := h M1 eM1
  clear hT eM1
  refine x_iconst (v := (J 0)) E dX7_keepBest_5 (by decide) ?_
  refine x_istore_n (L' := [(2, .int (J 0)), (0, .ref a0), (1, .int x1)]) E dX7_keepBest_6 rfl (by decide) rfl ?_
  refine x_sub (L' := [(0, .ref a0), (2, .int (J 0))]) [1, 0] rfl ?_
  refine lp_sound (T := fun sv => xG p l e ({ frames := 1, cells := 0, slots := 0, locals := 22 } : Room) s m args below meth c (MQ below (va_Qv K (xWd z D cA) (xA z)) args s 0 0 (xA z)) 3 z D cA sv.1 (0) (0) 7 [(0, .ref a0), (2, .int sv.2)] []) ?_ (M1, (J 0)) h
  clear h
  intro kc7 hk7 sv h
  obtain ⟨M, x2⟩ := sv
  replace h : CX7_keepBest_7 K a0 kc7 M x2 := h
  try dsimp only
  refine x_iload_n E dX7_keepBest_7 rfl 1 rfl ?_
  refine x_aload_n E dX7_keepBest_8 rfl 0 rfl ?_
  obtain ⟨hT, v2, hv, h⟩ := h
  refine x_get E flX7_21 dX7_keepBest_9 hT hv ?_
  clear hT hv
  refine x_icmp_ge (tgt := 37) E dX7_keepBest_12 (by decide) (fun c3 => ?_) (fun c3 => ?_)
  · replace h := xbr_t h c3
    clear c3
    exact x_vret E hr hlk dX7_keepBest_37 h
  · replace h := xbr_f h c3
    clear c3
    refine x_aload_n E dX7_keepBest_15 rfl 0 rfl ?_
    obtain ⟨hT, q4, hv, h⟩ := h
    refine x_get E flX7_18 dX7_keepBest_16 hT hv ?_
    clear hT hv
    refine x_iload_n E dX7_keepBest_19 rfl 1 rfl ?_
    refine x_aload_n E dX7_keepBest_20 rfl 0 rfl ?_
    obtain ⟨hT, q5, hv, h⟩ := h
    refine x_get E flX7_15 dX7_keepBest_21 hT hv ?_
    clear hT hv
    refine x_iload_n E dX7_keepBest_24 rfl 1 rfl ?_
    refine x_callSNi (As := [.ref q5, .int x2]) E mlX7_50 stX10_entry (kX10_entry l z D cA q5 x2 M _ h) rfl ⟨rfl, rfl⟩ ⟨Nat.le_of_ble_eq_true rfl, Nat.le_of_ble_eq_true rfl⟩ ⟨(Nat.le_of_ble_eq_true rfl), (Nat.le_of_ble_eq_true rfl)⟩ (Nat.le_of_ble_eq_true rfl) rfl dX7_keepBest_25 (x_pure (fun r6 h => ?_))
    refine x_callSNv (As := [.ref q4, .int x2, .int r6]) E mlX7_31 stX10_write (kX10_write l z D cA q4 x2 r6 M _ h) rfl ⟨rfl, rfl⟩ ⟨Nat.le_of_ble_eq_true rfl, Nat.le_of_ble_eq_true rfl⟩ ⟨(Nat.le_of_ble_eq_true rfl), (Nat.le_of_ble_eq_true rfl)⟩ (Nat.le_of_ble_eq_true rfl) rfl dX7_keepBest_28 (fun M9 h => ?_)
    refine x_iinc (v := (x2 + (J 1))) (L' := [(2, .int (x2 + (J 1))), (0, .ref a0)]) E dX7_keepBest_31 1 rfl rfl (by decide) rfl ?_
    refine x_goto (tgt := 7) E dX7_keepBest_34 (by decide) ?_
    refine x_sub (L' := [(0, .ref a0), (2, .int (x2 + (J 1)))]) [1, 0] rfl ?_
    exact hk7 (M9, (x2 + (J 1))) h
theorem dX7_swap_0 : decode cX7_swap 0 = .ok (.aload_n 0, 1) := by decide +kernel
theorem dX7_swap_1 : decode cX7_swap 1 = .ok (.getfield 15, 3) := by decide +kernel
theorem dX7_swap_4 : decode cX7_swap 4 = .ok (.iload_n 1, 1) := by decide +kernel
theorem dX7_swap_5 : decode cX7_swap 5 = .ok (.invokestatic 50, 3) := by decide +kernel
theorem dX7_swap_8 : decode cX7_swap 8 = .ok (.istore_n 3, 1) := by decide +kernel
theorem dX7_swap_9 : decode cX7_swap 9 = .ok (.aload_n 0, 1) := by decide +kernel
theorem dX7_swap_10 : decode cX7_swap 10 = .ok (.getfield 15, 3) := by decide +kernel
theorem dX7_swap_13 : decode cX7_swap 13 = .ok (.iload_n 1, 1) := by decide +kernel
theorem dX7_swap_14 : decode cX7_swap 14 = .ok (.aload_n 0, 1) := by decide +kernel
theorem dX7_swap_15 : decode cX7_swap 15 = .ok (.getfield 15, 3) := by decide +kernel
theorem dX7_swap_18 : decode cX7_swap 18 = .ok (.iload_n 2, 1) := by decide +kernel
theorem dX7_swap_19 : decode cX7_swap 19 = .ok (.invokestatic 50, 3) := by decide +kernel
theorem dX7_swap_22 : decode cX7_swap 22 = .ok (.invokestatic 31, 3) := by decide +kernel
theorem dX7_swap_25 : decode cX7_swap 25 = .ok (.aload_n 0, 1) := by decide +kernel
theorem dX7_swap_26 : decode cX7_swap 26 = .ok (.getfield 15, 3) := by decide +kernel
theorem dX7_swap_29 : decode cX7_swap 29 = .ok (.iload_n 2, 1) := by decide +kernel
theorem dX7_swap_30 : decode cX7_swap 30 = .ok (.iload_n 3, 1) := by decide +kernel
theorem dX7_swap_31 : decode cX7_swap 31 = .ok (.invokestatic 31, 3) := by decide +kernel
theorem dX7_swap_34 : decode cX7_swap 34 = .ok (.return_, 1) := by decide +kernel
set_option maxHeartbeats 4000000 in
set_option maxRecDepth 100000 in
theorem kX7_swap (l : Launch) (z : Nat) (D : va_G) (cA : Nat → ClassId) (a0 : Nat) (x1 : Int32) (x2 : Int32) (M : Mem) (K : Mem → Prop) (h : PX7_swap a0 x1 x2 M K) : Met l yX7_swap (.code yX7_swap cX7_swap 4 none :: gtbl) ({ frames := 1, cells := 0, slots := 0, locals := 22 } : Room) (va_Pc [.ref a0, .int x1, .int x2] (xB z D cA M)) (va_Qv K (xWd z D cA) (xA z)) 0 0 (xA z) := by
  refine x_met (by decide +kernel) (Nat.le_of_ble_eq_true rfl) (L0 := [(0, .ref a0), (1, .int x1), (2, .int x2)]) rfl ?_
  intro p e s m args below meth c E hr hlk hnm
  have E : xE RX7 cX7_swap 4 D cA p s m args c := E
  replace h := h.2
  refine x_aload_n E dX7_swap_0 rfl 0 rfl ?_
  obtain ⟨hT, q1, hv, h⟩ := h
  refine x_get E flX7_15 dX7_swap_1 hT hv ?_
  clear hT hv
  refine x_iload_n E dX7_swap_4 rfl 1 rfl ?_
  refine x_callSNi (As := [.ref q1, .int x1]) E mlX7_50 stX10_entry (kX10_entry l z D cA q1 x1 M _ h) rfl ⟨rfl, rfl⟩ ⟨Nat.le_of_ble_eq_true rfl, Nat.le_of_ble_eq_true rfl⟩ ⟨(Nat.le_of_ble_eq_true rfl), (Nat.le_of_ble_eq_true rfl)⟩ (Nat.le_of_ble_eq_true rfl) rfl dX7_swap_5 (x_pure (fun r2 h => ?_))
  refine x_istore_n (L' := [(3, .int r2), (0, .ref a0), (1, .int x1), (2, .int x2)]) E dX7_swap_8 rfl (by decide) rfl ?_
  refine x_aload_n E dX7_swap_9 rfl 1 rfl ?_
  obtain ⟨hT, q4, hv, h⟩ := h
  refine x_get E flX7_15 dX7_swap_10 hT hv ?_
  clear hT hv
  refine x_iload_n E dX7_swap_13 rfl 2 rfl ?_
  refine x_aload_n E dX7_swap_14 rfl 1 rfl ?_
  obtain ⟨hT, q5, hv, h⟩ := h
  refine x_get E flX7_15 dX7_swap_15 hT hv ?_
  clear hT hv
  refine x_iload_n E dX7_swap_18 rfl 3 rfl ?_
  refine x_callSNi (As := [.ref q5, .int x2]) E mlX7_50 stX10_entry (kX10_entry l z D cA q5 x2 M _ h) rfl ⟨rfl, rfl⟩ ⟨Nat.le_of_ble_eq_true rfl, Nat.le_of_ble_eq_true rfl⟩ ⟨(Nat.le_of_ble_eq_true rfl), (Nat.le_of_ble_eq_true rfl)⟩ (Nat.le_of_ble_eq_true rfl) rfl dX7_swap_19 (x_pure (fun r6 h => ?_))
  refine x_callSNv (As := [.ref q4, .int x1, .int r6]) E mlX7_31 stX10_write (kX10_write l z D cA q4 x1 r6 M _ h) rfl ⟨rfl, rfl⟩ ⟨Nat.le_of_ble_eq_true rfl, Nat.le_of_ble_eq_true rfl⟩ ⟨(Nat.le_of_ble_eq_true rfl), (Nat.le_of_ble_eq_true rfl)⟩ (Nat.le_of_ble_eq_true rfl) rfl dX7_swap_22 (fun M9 h => ?_)
  refine x_aload_n E dX7_swap_25 rfl 1 rfl ?_
  obtain ⟨hT, q10, hv, h⟩ := h
  refine x_get E flX7_15 dX7_swap_26 hT hv ?_
  clear hT hv
  refine x_iload_n E dX7_swap_29 rfl 3 rfl ?_
  refine x_iload_n E dX7_swap_30 rfl 0 rfl ?_
  refine x_callSNv (As := [.ref q10, .int x2, .int r2]) E mlX7_31 stX10_write (kX10_write l z D cA q10 x2 r2 M9 _ h) rfl ⟨rfl, rfl⟩ ⟨Nat.le_of_ble_eq_true rfl, Nat.le_of_ble_eq_true rfl⟩ ⟨(Nat.le_of_ble_eq_true rfl), (Nat.le_of_ble_eq_true rfl)⟩ (Nat.le_of_ble_eq_true rfl) rfl dX7_swap_31 (fun M12 h => ?_)
  exact x_vret E hr hlk dX7_swap_34 h
theorem dX7_nextTour_0 : decode cX7_nextTour 0 = .ok (.aload_n 0, 1) := by decide +kernel
theorem dX7_nextTour_1 : decode cX7_nextTour 1 = .ok (.getfield 21, 3) := by decide +kernel
theorem dX7_nextTour_4 : decode cX7_nextTour 4 = .ok (.iconst 2, 1) := by decide +kernel
theorem dX7_nextTour_5 : decode cX7_nextTour 5 = .ok (.isub, 1) := by decide +kernel
theorem dX7_nextTour_6 : decode cX7_nextTour 6 = .ok (.istore_n 1, 1) := by decide +kernel
theorem dX7_nextTour_7 : decode cX7_nextTour 7 = .ok (.iload_n 1, 1) := by decide +kernel
theorem dX7_nextTour_8 : decode cX7_nextTour 8 = .ok (.ifCond .lt 30, 3) := by decide +kernel
theorem dX7_nextTour_11 : decode cX7_nextTour 11 = .ok (.aload_n 0, 1) := by decide +kernel
theorem dX7_nextTour_12 : decode cX7_nextTour 12 = .ok (.getfield 15, 3) := by decide +kernel
theorem dX7_nextTour_15 : decode cX7_nextTour 15 = .ok (.iload_n 1, 1) := by decide +kernel
theorem dX7_nextTour_16 : decode cX7_nextTour 16 = .ok (.invokestatic 50, 3) := by decide +kernel
theorem dX7_nextTour_19 : decode cX7_nextTour 19 = .ok (.aload_n 0, 1) := by decide +kernel
theorem dX7_nextTour_20 : decode cX7_nextTour 20 = .ok (.getfield 15, 3) := by decide +kernel
theorem dX7_nextTour_23 : decode cX7_nextTour 23 = .ok (.iload_n 1, 1) := by decide +kernel
theorem dX7_nextTour_24 : decode cX7_nextTour 24 = .ok (.iconst 1, 1) := by decide +kernel
theorem dX7_nextTour_25 : decode cX7_nextTour 25 = .ok (.iadd, 1) := by decide +kernel
theorem dX7_nextTour_26 : decode cX7_nextTour 26 = .ok (.invokestatic 50, 3) := by decide +kernel
theorem dX7_nextTour_29 : decode cX7_nextTour 29 = .ok (.if_icmp .le 9, 3) := by decide +kernel
theorem dX7_nextTour_32 : decode cX7_nextTour 32 = .ok (.iinc 1 (-1), 3) := by decide +kernel
theorem dX7_nextTour_35 : decode cX7_nextTour 35 = .ok (.goto (-28), 3) := by decide +kernel
theorem dX7_nextTour_38 : decode cX7_nextTour 38 = .ok (.iload_n 1, 1) := by decide +kernel
theorem dX7_nextTour_39 : decode cX7_nextTour 39 = .ok (.ifCond .ge 5, 3) := by decide +kernel
theorem dX7_nextTour_42 : decode cX7_nextTour 42 = .ok (.iconst 0, 1) := by decide +kernel
theorem dX7_nextTour_43 : decode cX7_nextTour 43 = .ok (.ireturn, 1) := by decide +kernel
theorem dX7_nextTour_44 : decode cX7_nextTour 44 = .ok (.aload_n 0, 1) := by decide +kernel
theorem dX7_nextTour_45 : decode cX7_nextTour 45 = .ok (.getfield 21, 3) := by decide +kernel
theorem dX7_nextTour_48 : decode cX7_nextTour 48 = .ok (.iconst 1, 1) := by decide +kernel
theorem dX7_nextTour_49 : decode cX7_nextTour 49 = .ok (.isub, 1) := by decide +kernel
theorem dX7_nextTour_50 : decode cX7_nextTour 50 = .ok (.istore_n 2, 1) := by decide +kernel
theorem dX7_nextTour_51 : decode cX7_nextTour 51 = .ok (.iload_n 2, 1) := by decide +kernel
theorem dX7_nextTour_52 : decode cX7_nextTour 52 = .ok (.iload_n 1, 1) := by decide +kernel
theorem dX7_nextTour_53 : decode cX7_nextTour 53 = .ok (.if_icmp .le 28, 3) := by decide +kernel
theorem dX7_nextTour_56 : decode cX7_nextTour 56 = .ok (.aload_n 0, 1) := by decide +kernel
theorem dX7_nextTour_57 : decode cX7_nextTour 57 = .ok (.getfield 15, 3) := by decide +kernel
theorem dX7_nextTour_60 : decode cX7_nextTour 60 = .ok (.iload_n 2, 1) := by decide +kernel
theorem dX7_nextTour_61 : decode cX7_nextTour 61 = .ok (.invokestatic 50, 3) := by decide +kernel
theorem dX7_nextTour_64 : decode cX7_nextTour 64 = .ok (.aload_n 0, 1) := by decide +kernel
theorem dX7_nextTour_65 : decode cX7_nextTour 65 = .ok (.getfield 15, 3) := by decide +kernel
theorem dX7_nextTour_68 : decode cX7_nextTour 68 = .ok (.iload_n 1, 1) := by decide +kernel
theorem dX7_nextTour_69 : decode cX7_nextTour 69 = .ok (.invokestatic 50, 3) := by decide +kernel
theorem dX7_nextTour_72 : decode cX7_nextTour 72 = .ok (.if_icmp .ge 9, 3) := by decide +kernel
theorem dX7_nextTour_75 : decode cX7_nextTour 75 = .ok (.iinc 2 (-1), 3) := by decide +kernel
theorem dX7_nextTour_78 : decode cX7_nextTour 78 = .ok (.goto (-27), 3) := by decide +kernel
theorem dX7_nextTour_81 : decode cX7_nextTour 81 = .ok (.aload_n 0, 1) := by decide +kernel
theorem dX7_nextTour_82 : decode cX7_nextTour 82 = .ok (.iload_n 1, 1) := by decide +kernel
theorem dX7_nextTour_83 : decode cX7_nextTour 83 = .ok (.iload_n 2, 1) := by decide +kernel
theorem dX7_nextTour_84 : decode cX7_nextTour 84 = .ok (.invokevirtual 69, 3) := by decide +kernel
theorem dX7_nextTour_87 : decode cX7_nextTour 87 = .ok (.iload_n 1, 1) := by decide +kernel
theorem dX7_nextTour_88 : decode cX7_nextTour 88 = .ok (.iconst 1, 1) := by decide +kernel
theorem dX7_nextTour_89 : decode cX7_nextTour 89 = .ok (.iadd, 1) := by decide +kernel
theorem dX7_nextTour_90 : decode cX7_nextTour 90 = .ok (.istore_n 3, 1) := by decide +kernel
theorem dX7_nextTour_91 : decode cX7_nextTour 91 = .ok (.aload_n 0, 1) := by decide +kernel
theorem dX7_nextTour_92 : decode cX7_nextTour 92 = .ok (.getfield 21, 3) := by decide +kernel
theorem dX7_nextTour_95 : decode cX7_nextTour 95 = .ok (.iconst 1, 1) := by decide +kernel
theorem dX7_nextTour_96 : decode cX7_nextTour 96 = .ok (.isub, 1) := by decide +kernel
theorem dX7_nextTour_97 : decode cX7_nextTour 97 = .ok (.istore 4, 2) := by decide +kernel
theorem dX7_nextTour_99 : decode cX7_nextTour 99 = .ok (.iload_n 3, 1) := by decide +kernel
theorem dX7_nextTour_100 : decode cX7_nextTour 100 = .ok (.iload 4, 2) := by decide +kernel
theorem dX7_nextTour_102 : decode cX7_nextTour 102 = .ok (.if_icmp .ge 19, 3) := by decide +kernel
theorem dX7_nextTour_105 : decode cX7_nextTour 105 = .ok (.aload_n 0, 1) := by decide +kernel
theorem dX7_nextTour_106 : decode cX7_nextTour 106 = .ok (.iload_n 3, 1) := by decide +kernel
theorem dX7_nextTour_107 : decode cX7_nextTour 107 = .ok (.iload 4, 2) := by decide +kernel
theorem dX7_nextTour_109 : decode cX7_nextTour 109 = .ok (.invokevirtual 69, 3) := by decide +kernel
theorem dX7_nextTour_112 : decode cX7_nextTour 112 = .ok (.iinc 3 1, 3) := by decide +kernel
theorem dX7_nextTour_115 : decode cX7_nextTour 115 = .ok (.iinc 4 (-1), 3) := by decide +kernel
theorem dX7_nextTour_118 : decode cX7_nextTour 118 = .ok (.goto (-19), 3) := by decide +kernel
theorem dX7_nextTour_121 : decode cX7_nextTour 121 = .ok (.iconst 1, 1) := by decide +kernel
theorem dX7_nextTour_122 : decode cX7_nextTour 122 = .ok (.ireturn, 1) := by decide +kernel
set_option maxHeartbeats 4000000 in
set_option maxRecDepth 100000 in
theorem kX7_nextTour (l : Launch) (z : Nat) (D : va_G) (cA : Nat → ClassId) (a0 : Nat) (M : Mem) (K : Int32 → Mem → Prop) (h : PX7_nextTour a0 M K) : Met l yX7_nextTour (.code yX7_nextTour cX7_nextTour 5 (some .boolean) :: gtbl) ({ frames := 2, cells := 0, slots := 0, locals := 45 } : Room) (va_Pc [.ref a0] (xB z D cA M)) (va_Qi K (xWd z D cA) (xA z)) 0 0 (xA z) := by
  refine x_met (by decide +kernel) (Nat.le_of_ble_eq_true rfl) (L0 := [(0, .ref a0)]) rfl ?_
  intro p e s m args below meth c E hr hlk hnm
  have E : xE RX7 cX7_nextTour 5 D cA p s m args c := E
  have hJ81 : ∀ (M : Mem) (j0 : Nat) (j1 : Int32) (j2 : Int32), JX7_nextTour_81 K M j0 j1 j2 → xG p l e ({ frames := 2, cells := 0, slots := 0, locals := 45 } : Room) s m args below meth c (MQ below (va_Qi K (xWd z D cA) (xA z)) args s 0 0 (xA z)) 5 z D cA M (0) (0) 81 [(0, .ref j0), (1, .int j1), (2, .int j2)] [] := by
    intro M j0 j1 j2 h
    refine x_aload_n E dX7_nextTour_81 rfl 0 rfl ?_
    refine x_iload_n E dX7_nextTour_82 rfl 1 rfl ?_
    refine x_iload_n E dX7_nextTour_83 rfl 2 rfl ?_
    refine x_callVv (T := TX7) (N := 5) (t := 8) (As := [.int j1, .int j2]) E mlX7_69 inX7_swap seX7_swap rfl ⟨by decide, by decide⟩ (tX7_swap h) (kX7_swap l z D cA j0 j1 j2 M _ h) rfl ⟨rfl, rfl⟩ ⟨Nat.le_of_ble_eq_true rfl, Nat.le_of_ble_eq_true rfl⟩ ⟨(Nat.le_of_ble_eq_true rfl), (Nat.le_of_ble_eq_true rfl)⟩ (Nat.le_of_ble_eq_true rfl) rfl dX7_nextTour_84 (fun M9 h => ?_)
    refine x_iload_n E dX7_nextTour_87 rfl 1 rfl ?_
    refine x_iconst (v := (J 1)) E dX7_nextTour_88 (by decide) ?_
    refine x_iadd E dX7_nextTour_89 ?_
    obtain ⟨y10, ey10, h⟩ := h
    refine x_top (v := .int y10) (congrArg _ ey10) ?_
    clear ey10
    refine x_istore_n (L' := [(3, .int y10), (0, .ref j0), (1, .int j1), (2, .int j2)]) E dX7_nextTour_90 rfl (by decide) rfl ?_
    refine x_aload_n E dX7_nextTour_91 rfl 1 rfl ?_
    obtain ⟨hT, v11, hv, h⟩ := h
    refine x_get E flX7_21 dX7_nextTour_92 hT hv ?_
    clear hT hv
    refine x_iconst (v := (J 1)) E dX7_nextTour_95 (by decide) ?_
    refine x_isub E dX7_nextTour_96 ?_
    obtain ⟨y12, ey12, h⟩ := h
    refine x_top (v := .int y12) (congrArg _ ey12) ?_
    clear ey12
    refine x_istore (L' := [(4, .int y12), (3, .int y10), (0, .ref j0), (1, .int j1), (2, .int j2)]) E dX7_nextTour_97 (by decide) rfl ?_
    refine x_sub (L' := [(0, .ref j0), (3, .int y10), (4, .int y12)]) [2, 1, 0] rfl ?_
    refine lp_sound (T := fun sv => xG p l e ({ frames := 2, cells := 0, slots := 0, locals := 45 } : Room) s m args below meth c (MQ below (va_Qi K (xWd z D cA) (xA z)) args s 0 0 (xA z)) 5 z D cA sv.1 (0) (0) 99 [(0, .ref j0), (3, .int sv.2.1), (4, .int sv.2.2)] []) ?_ (M9, y10, y12) h
    clear h
    intro kc99 hk99 sv h
    obtain ⟨M, x3, x4⟩ := sv
    replace h : CX7_nextTour_99 K j0 kc99 M x3 x4 := h
    try dsimp only
    refine x_iload_n E dX7_nextTour_99 rfl 1 rfl ?_
    refine x_iload E dX7_nextTour_100 2 rfl ?_
    refine x_icmp_ge (tgt := 121) E dX7_nextTour_102 (by decide) (fun c13 => ?_) (fun c13 => ?_)
    · replace h := xbr_t h c13
      clear c13
      refine x_iconst (v := (J 1)) E dX7_nextTour_121 (by decide) ?_
      exact x_zret E hr hlk dX7_nextTour_122 h.1 h.2
    · replace h := xbr_f h c13
      clear c13
      refine x_aload_n E dX7_nextTour_105 rfl 0 rfl ?_
      refine x_iload_n E dX7_nextTour_106 rfl 1 rfl ?_
      refine x_iload E dX7_nextTour_107 2 rfl ?_
      refine x_callVv (T := TX7) (N := 5) (t := 8) (As := [.int x3, .int x4]) E mlX7_69 inX7_swap seX7_swap rfl ⟨by decide, by decide⟩ (tX7_swap h) (kX7_swap l z D cA j0 x3 x4 M _ h) rfl ⟨rfl, rfl⟩ ⟨Nat.le_of_ble_eq_true rfl, Nat.le_of_ble_eq_true rfl⟩ ⟨(Nat.le_of_ble_eq_true rfl), (Nat.le_of_ble_eq_true rfl)⟩ (Nat.le_of_ble_eq_true rfl) rfl dX7_nextTour_109 (fun M15 h => ?_)
      refine x_iinc (v := (x3 + (J 1))) (L' := [(3, .int (x3 + (J 1))), (0, .ref j0), (4, .int x4)]) E dX7_nextTour_112 1 rfl rfl (by decide) rfl ?_
      refine x_iinc (v := (x4 + (J (-1)))) (L' := [(4, .int (x4 + (J (-1)))), (3, .int (x3 + (J 1))), (0, .ref j0)]) E dX7_nextTour_115 2 rfl rfl (by decide) rfl ?_
      refine x_goto (tgt := 99) E dX7_nextTour_118 (by decide) ?_
      refine x_sub (L' := [(0, .ref j0), (3, .int (x3 + (J 1))), (4, .int (x4 + (J (-1))))]) [2, 1, 0] rfl ?_
      exact hk99 (M15, (x3 + (J 1)), (x4 + (J (-1)))) h
  have hJ38 : ∀ (M : Mem) (j0 : Nat) (j1 : Int32), JX7_nextTour_38 K M j0 j1 → xG p l e ({ frames := 2, cells := 0, slots := 0, locals := 45 } : Room) s m args below meth c (MQ below (va_Qi K (xWd z D cA) (xA z)) args s 0 0 (xA z)) 5 z D cA M (0) (0) 38 [(0, .ref j0), (1, .int j1)] [] := by
    intro M j0 j1 h
    refine x_iload_n E dX7_nextTour_38 rfl 1 rfl ?_
    refine x_if_ge (tgt := 44) E dX7_nextTour_39 (by decide) (fun c4 => ?_) (fun c4 => ?_)
    · replace h := xbr_t h c4
      clear c4
      refine x_aload_n E dX7_nextTour_44 rfl 0 rfl ?_
      obtain ⟨hT, v5, hv, h⟩ := h
      refine x_get E flX7_21 dX7_nextTour_45 hT hv ?_
      clear hT hv
      refine x_iconst (v := (J 1)) E dX7_nextTour_48 (by decide) ?_
      refine x_isub E dX7_nextTour_49 ?_
      obtain ⟨y6, ey6, h⟩ := h
      refine x_top (v := .int y6) (congrArg _ ey6) ?_
      clear ey6
      refine x_istore_n (L' := [(2, .int y6), (0, .ref j0), (1, .int j1)]) E dX7_nextTour_50 rfl (by decide) rfl ?_
      refine x_sub (L' := [(0, .ref j0), (1, .int j1), (2, .int y6)]) [1, 2, 0] rfl ?_
      refine lp_sound (T := fun sv => xG p l e ({ frames := 2, cells := 0, slots := 0, locals := 45 } : Room) s m args below meth c (MQ below (va_Qi K (xWd z D cA) (xA z)) args s 0 0 (xA z)) 5 z D cA M (0) (0) 51 [(0, .ref j0), (1, .int j1), (2, .int sv)] []) ?_ y6 h
      clear h
      intro kc51 hk51 sv h
      obtain ⟨x2, esv⟩ : ∃ y, y = sv := ⟨_, rfl⟩
      subst esv
      replace h : CX7_nextTour_51 K M j0 j1 kc51 x2 := h
      try dsimp only
      refine x_iload_n E dX7_nextTour_51 rfl 2 rfl ?_
      refine x_iload_n E dX7_nextTour_52 rfl 1 rfl ?_
      refine x_icmp_le (tgt := 81) E dX7_nextTour_53 (by decide) (fun c7 => ?_) (fun c7 => ?_)
      · replace h := xbr_t h c7
        clear c7
        exact hJ81 M j0 j1 x2 h
      · replace h := xbr_f h c7
        clear c7
        refine x_aload_n E dX7_nextTour_56 rfl 0 rfl ?_
        obtain ⟨hT, q16, hv, h⟩ := h
        refine x_get E flX7_15 dX7_nextTour_57 hT hv ?_
        clear hT hv
        refine x_iload_n E dX7_nextTour_60 rfl 2 rfl ?_
        refine x_callSNi (As := [.ref q16, .int x2]) E mlX7_50 stX10_entry (kX10_entry l z D cA q16 x2 M _ h) rfl ⟨rfl, rfl⟩ ⟨Nat.le_of_ble_eq_true rfl, Nat.le_of_ble_eq_true rfl⟩ ⟨(Nat.le_of_ble_eq_true rfl), (Nat.le_of_ble_eq_true rfl)⟩ (Nat.le_of_ble_eq_true rfl) rfl dX7_nextTour_61 (x_pure (fun r17 h => ?_))
        refine x_aload_n E dX7_nextTour_64 rfl 0 rfl ?_
        obtain ⟨hT, q19, hv, h⟩ := h
        refine x_get E flX7_15 dX7_nextTour_65 hT hv ?_
        clear hT hv
        refine x_iload_n E dX7_nextTour_68 rfl 1 rfl ?_
        refine x_callSNi (As := [.ref q19, .int j1]) E mlX7_50 stX10_entry (kX10_entry l z D cA q19 j1 M _ h) rfl ⟨rfl, rfl⟩ ⟨Nat.le_of_ble_eq_true rfl, Nat.le_of_ble_eq_true rfl⟩ ⟨(Nat.le_of_ble_eq_true rfl), (Nat.le_of_ble_eq_true rfl)⟩ (Nat.le_of_ble_eq_true rfl) rfl dX7_nextTour_69 (x_pure (fun r20 h => ?_))
        refine x_icmp_ge (tgt := 81) E dX7_nextTour_72 (by decide) (fun c22 => ?_) (fun c22 => ?_)
        · replace h := xbr_t h c22
          clear c22
          exact hJ81 M j0 j1 x2 h
        · replace h := xbr_f h c22
          clear c22
          refine x_iinc (v := (x2 + (J (-1)))) (L' := [(2, .int (x2 + (J (-1)))), (0, .ref j0), (1, .int j1)]) E dX7_nextTour_75 2 rfl rfl (by decide) rfl ?_
          refine x_goto (tgt := 51) E dX7_nextTour_78 (by decide) ?_
          refine x_sub (L' := [(0, .ref j0), (1, .int j1), (2, .int (x2 + (J (-1))))]) [1, 2, 0] rfl ?_
          exact hk51 (x2 + (J (-1))) h
    · replace h := xbr_f h c4
      clear c4
      refine x_iconst (v := (J 0)) E dX7_nextTour_42 (by decide) ?_
      exact x_zret E hr hlk dX7_nextTour_43 h.1 h.2
  replace h := h.2
  refine x_aload_n E dX7_nextTour_0 rfl 0 rfl ?_
  obtain ⟨hT, v1, hv, h⟩ := h
  refine x_get E flX7_21 dX7_nextTour_1 hT hv ?_
  clear hT hv
  refine x_iconst (v := (J 2)) E dX7_nextTour_4 (by decide) ?_
  refine x_isub E dX7_nextTour_5 ?_
  obtain ⟨y2, ey2, h⟩ := h
  refine x_top (v := .int y2) (congrArg _ ey2) ?_
  clear ey2
  refine x_istore_n (L' := [(1, .int y2), (0, .ref a0)]) E dX7_nextTour_6 rfl (by decide) rfl ?_
  refine x_sub (L' := [(0, .ref a0), (1, .int y2)]) [1, 0] rfl ?_
  refine lp_sound (T := fun sv => xG p l e ({ frames := 2, cells := 0, slots := 0, locals := 45 } : Room) s m args below meth c (MQ below (va_Qi K (xWd z D cA) (xA z)) args s 0 0 (xA z)) 5 z D cA M (0) (0) 7 [(0, .ref a0), (1, .int sv)] []) ?_ y2 h
  clear h
  intro kc7 hk7 sv h
  obtain ⟨x1, esv⟩ : ∃ y, y = sv := ⟨_, rfl⟩
  subst esv
  replace h : CX7_nextTour_7 K M a0 kc7 x1 := h
  try dsimp only
  refine x_iload_n E dX7_nextTour_7 rfl 1 rfl ?_
  refine x_if_lt (tgt := 38) E dX7_nextTour_8 (by decide) (fun c3 => ?_) (fun c3 => ?_)
  · replace h := xbr_t h c3
    clear c3
    exact hJ38 M a0 x1 h
  · replace h := xbr_f h c3
    clear c3
    refine x_aload_n E dX7_nextTour_11 rfl 0 rfl ?_
    obtain ⟨hT, q23, hv, h⟩ := h
    refine x_get E flX7_15 dX7_nextTour_12 hT hv ?_
    clear hT hv
    refine x_iload_n E dX7_nextTour_15 rfl 1 rfl ?_
    refine x_callSNi (As := [.ref q23, .int x1]) E mlX7_50 stX10_entry (kX10_entry l z D cA q23 x1 M _ h) rfl ⟨rfl, rfl⟩ ⟨Nat.le_of_ble_eq_true rfl, Nat.le_of_ble_eq_true rfl⟩ ⟨(Nat.le_of_ble_eq_true rfl), (Nat.le_of_ble_eq_true rfl)⟩ (Nat.le_of_ble_eq_true rfl) rfl dX7_nextTour_16 (x_pure (fun r24 h => ?_))
    refine x_aload_n E dX7_nextTour_19 rfl 0 rfl ?_
    obtain ⟨hT, q26, hv, h⟩ := h
    refine x_get E flX7_15 dX7_nextTour_20 hT hv ?_
    clear hT hv
    refine x_iload_n E dX7_nextTour_23 rfl 1 rfl ?_
    refine x_iconst (v := (J 1)) E dX7_nextTour_24 (by decide) ?_
    refine x_iadd E dX7_nextTour_25 ?_
    refine x_callSNi (As := [.ref q26, .int (x1 + (J 1))]) E mlX7_50 stX10_entry (kX10_entry l z D cA q26 (x1 + (J 1)) M _ h) rfl ⟨rfl, rfl⟩ ⟨Nat.le_of_ble_eq_true rfl, Nat.le_of_ble_eq_true rfl⟩ ⟨(Nat.le_of_ble_eq_true rfl), (Nat.le_of_ble_eq_true rfl)⟩ (Nat.le_of_ble_eq_true rfl) rfl dX7_nextTour_26 (x_pure (fun r27 h => ?_))
    refine x_icmp_le (tgt := 38) E dX7_nextTour_29 (by decide) (fun c29 => ?_) (fun c29 => ?_)
    · replace h := xbr_t h c29
      clear c29
      exact hJ38 M a0 x1 h
    · replace h := xbr_f h c29
      clear c29
      refine x_iinc (v := (x1 + (J (-1)))) (L' := [(1, .int (x1 + (J (-1)))), (0, .ref a0)]) E dX7_nextTour_32 1 rfl rfl (by decide) rfl ?_
      refine x_goto (tgt := 7) E dX7_nextTour_35 (by decide) ?_
      refine x_sub (L' := [(0, .ref a0), (1, .int (x1 + (J (-1))))]) [1, 0] rfl ?_
      exact hk7 (x1 + (J (-1))) h
theorem dX7_find_0 : decode cX7_find 0 = .ok (.aload_n 0, 1) := by decide +kernel
theorem dX7_find_1 : decode cX7_find 1 = .ok (.aload_n 0, 1) := by decide +kernel
theorem dX7_find_2 : decode cX7_find 2 = .ok (.aload_n 1, 1) := by decide +kernel
theorem dX7_find_3 : decode cX7_find 3 = .ok (.invokevirtual 35, 3) := by decide +kernel
theorem dX7_find_6 : decode cX7_find 6 = .ok (.invokevirtual 39, 3) := by decide +kernel
theorem dX7_find_9 : decode cX7_find 9 = .ok (.iconst 1, 1) := by decide +kernel
theorem dX7_find_10 : decode cX7_find 10 = .ok (.istore_n 2, 1) := by decide +kernel
theorem dX7_find_11 : decode cX7_find 11 = .ok (.iload_n 2, 1) := by decide +kernel
theorem dX7_find_12 : decode cX7_find 12 = .ok (.bipush 120, 2) := by decide +kernel
theorem dX7_find_14 : decode cX7_find 14 = .ok (.if_icmp .ge 35, 3) := by decide +kernel
theorem dX7_find_17 : decode cX7_find 17 = .ok (.aload_n 0, 1) := by decide +kernel
theorem dX7_find_18 : decode cX7_find 18 = .ok (.invokevirtual 43, 3) := by decide +kernel
theorem dX7_find_21 : decode cX7_find 21 = .ok (.ifCond .eq 28, 3) := by decide +kernel
theorem dX7_find_24 : decode cX7_find 24 = .ok (.aload_n 0, 1) := by decide +kernel
theorem dX7_find_25 : decode cX7_find 25 = .ok (.aload_n 1, 1) := by decide +kernel
theorem dX7_find_26 : decode cX7_find 26 = .ok (.invokevirtual 35, 3) := by decide +kernel
theorem dX7_find_29 : decode cX7_find 29 = .ok (.istore_n 3, 1) := by decide +kernel
theorem dX7_find_30 : decode cX7_find 30 = .ok (.iload_n 3, 1) := by decide +kernel
theorem dX7_find_31 : decode cX7_find 31 = .ok (.aload_n 0, 1) := by decide +kernel
theorem dX7_find_32 : decode cX7_find 32 = .ok (.getfield 47, 3) := by decide +kernel
theorem dX7_find_35 : decode cX7_find 35 = .ok (.if_icmp .ge 8, 3) := by decide +kernel
theorem dX7_find_38 : decode cX7_find 38 = .ok (.aload_n 0, 1) := by decide +kernel
theorem dX7_find_39 : decode cX7_find 39 = .ok (.iload_n 3, 1) := by decide +kernel
theorem dX7_find_40 : decode cX7_find 40 = .ok (.invokevirtual 39, 3) := by decide +kernel
theorem dX7_find_43 : decode cX7_find 43 = .ok (.iinc 2 1, 3) := by decide +kernel
theorem dX7_find_46 : decode cX7_find 46 = .ok (.goto (-35), 3) := by decide +kernel
theorem dX7_find_49 : decode cX7_find 49 = .ok (.return_, 1) := by decide +kernel
set_option maxHeartbeats 4000000 in
set_option maxRecDepth 100000 in
theorem kX7_find (l : Launch) (z : Nat) (D : va_G) (cA : Nat → ClassId) (a0 : Nat) (a1 : Nat) (M : Mem) (K : Mem → Prop) (h : PX7_find a0 a1 M K) : Met l yX7_find (.code yX7_find cX7_find 4 none :: gtbl) ({ frames := 3, cells := 0, slots := 0, locals := 69 } : Room) (va_Pc [.ref a0, .ref a1] (xB z D cA M)) (va_Qv K (xWd z D cA) (xA z)) 0 0 (xA z) := by
  refine x_met (by decide +kernel) (Nat.le_of_ble_eq_true rfl) (L0 := [(0, .ref a0), (1, .ref a1)]) rfl ?_
  intro p e s m args below meth c E hr hlk hnm
  have E : xE RX7 cX7_find 4 D cA p s m args c := E
  replace h := h.2
  refine x_aload_n E dX7_find_0 rfl 0 rfl ?_
  refine x_aload_n E dX7_find_1 rfl 0 rfl ?_
  refine x_aload_n E dX7_find_2 rfl 1 rfl ?_
  refine x_callVi (T := TX7) (N := 5) (t := 8) (As := [.ref a1]) E mlX7_35 inX7_costOfTour seX7_costOfTour rfl ⟨by decide, by decide⟩ (tX7_costOfTour h) (kX7_costOfTour l z D cA a0 a1 M _ h) rfl ⟨rfl, rfl⟩ ⟨Nat.le_of_ble_eq_true rfl, Nat.le_of_ble_eq_true rfl⟩ ⟨(Nat.le_of_ble_eq_true rfl), (Nat.le_of_ble_eq_true rfl)⟩ (Nat.le_of_ble_eq_true rfl) rfl dX7_find_3 (x_pure (fun r1 h => ?_))
  refine x_callVv (T := TX7) (N := 5) (t := 8) (As := [.int r1]) E mlX7_39 inX7_keepBest seX7_keepBest rfl ⟨by decide, by decide⟩ (tX7_keepBest h) (kX7_keepBest l z D cA a0 r1 M _ h) rfl ⟨rfl, rfl⟩ ⟨Nat.le_of_ble_eq_true rfl, Nat.le_of_ble_eq_true rfl⟩ ⟨(Nat.le_of_ble_eq_true rfl), (Nat.le_of_ble_eq_true rfl)⟩ (Nat.le_of_ble_eq_true rfl) rfl dX7_find_6 (fun M4 h => ?_)
  refine x_iconst (v := (J 1)) E dX7_find_9 (by decide) ?_
  refine x_istore_n (L' := [(2, .int (J 1)), (0, .ref a0), (1, .ref a1)]) E dX7_find_10 rfl (by decide) rfl ?_
  refine x_sub (L' := [(0, .ref a0), (1, .ref a1), (2, .int (J 1))]) [1, 2, 0] rfl ?_
  refine lp_sound (T := fun sv => xG p l e ({ frames := 3, cells := 0, slots := 0, locals := 69 } : Room) s m args below meth c (MQ below (va_Qv K (xWd z D cA) (xA z)) args s 0 0 (xA z)) 4 z D cA sv.1 (0) (0) 11 [(0, .ref a0), (1, .ref a1), (2, .int sv.2)] []) ?_ (M4, (J 1)) h
  clear h
  intro kc11 hk11 sv h
  obtain ⟨M, x2⟩ := sv
  replace h : CX7_find_11 K a0 a1 kc11 M x2 := h
  try dsimp only
  refine x_iload_n E dX7_find_11 rfl 2 rfl ?_
  refine x_bipush (v := (J 120)) E dX7_find_12 (by decide) ?_
  refine x_icmp_ge (tgt := 49) E dX7_find_14 (by decide) (fun c5 => ?_) (fun c5 => ?_)
  · replace h := xbr_t h c5
    clear c5
    exact x_vret E hr hlk dX7_find_49 h
  · replace h := xbr_f h c5
    clear c5
    refine x_aload_n E dX7_find_17 rfl 0 rfl ?_
    refine x_callVi (T := TX7) (N := 5) (t := 8) (As := []) E mlX7_43 inX7_nextTour seX7_nextTour rfl ⟨by decide, by decide⟩ (tX7_nextTour h) (kX7_nextTour l z D cA a0 M _ h) rfl ⟨rfl, rfl⟩ ⟨Nat.le_of_ble_eq_true rfl, Nat.le_of_ble_eq_true rfl⟩ ⟨(Nat.le_of_ble_eq_true rfl), (Nat.le_of_ble_eq_true rfl)⟩ (Nat.le_of_ble_eq_true rfl) rfl dX7_find_18 (fun r6 M7 h => ?_)
    refine x_if_eq (tgt := 49) E dX7_find_21 (by decide) (fun c8 => ?_) (fun c8 => ?_)
    · replace h := xbr_t h c8
      clear c8
      exact x_vret E hr hlk dX7_find_49 h
    · replace h := xbr_f h c8
      clear c8
      refine x_aload_n E dX7_find_24 rfl 0 rfl ?_
      refine x_aload_n E dX7_find_25 rfl 1 rfl ?_
      refine x_callVi (T := TX7) (N := 5) (t := 8) (As := [.ref a1]) E mlX7_35 inX7_costOfTour seX7_costOfTour rfl ⟨by decide, by decide⟩ (tX7_costOfTour h) (kX7_costOfTour l z D cA a0 a1 M7 _ h) rfl ⟨rfl, rfl⟩ ⟨Nat.le_of_ble_eq_true rfl, Nat.le_of_ble_eq_true rfl⟩ ⟨(Nat.le_of_ble_eq_true rfl), (Nat.le_of_ble_eq_true rfl)⟩ (Nat.le_of_ble_eq_true rfl) rfl dX7_find_26 (x_pure (fun r9 h => ?_))
      refine x_istore_n (L' := [(3, .int r9), (0, .ref a0), (1, .ref a1), (2, .int x2)]) E dX7_find_29 rfl (by decide) rfl ?_
      refine x_iload_n E dX7_find_30 rfl 0 rfl ?_
      refine x_aload_n E dX7_find_31 rfl 1 rfl ?_
      obtain ⟨hT, v11, hv, h⟩ := h
      refine x_get E flX7_47 dX7_find_32 hT hv ?_
      clear hT hv
      refine x_icmp_ge (tgt := 43) E dX7_find_35 (by decide) (fun c12 => ?_) (fun c12 => ?_)
      · replace h := xbr_t h c12
        clear c12
        refine x_iinc (v := (x2 + (J 1))) (L' := [(2, .int (x2 + (J 1))), (3, .int r9), (0, .ref a0), (1, .ref a1)]) E dX7_find_43 3 rfl rfl (by decide) rfl ?_
        refine x_goto (tgt := 11) E dX7_find_46 (by decide) ?_
        refine x_sub (L' := [(0, .ref a0), (1, .ref a1), (2, .int (x2 + (J 1)))]) [2, 3, 0] rfl ?_
        exact hk11 (M7, (x2 + (J 1))) h
      · replace h := xbr_f h c12
        clear c12
        refine x_aload_n E dX7_find_38 rfl 1 rfl ?_
        refine x_iload_n E dX7_find_39 rfl 0 rfl ?_
        refine x_callVv (T := TX7) (N := 5) (t := 8) (As := [.int r9]) E mlX7_39 inX7_keepBest seX7_keepBest rfl ⟨by decide, by decide⟩ (tX7_keepBest h) (kX7_keepBest l z D cA a0 r9 M7 _ h) rfl ⟨rfl, rfl⟩ ⟨Nat.le_of_ble_eq_true rfl, Nat.le_of_ble_eq_true rfl⟩ ⟨(Nat.le_of_ble_eq_true rfl), (Nat.le_of_ble_eq_true rfl)⟩ (Nat.le_of_ble_eq_true rfl) rfl dX7_find_40 (fun M14 h => ?_)
        refine x_iinc (v := (x2 + (J 1))) (L' := [(2, .int (x2 + (J 1))), (3, .int r9), (0, .ref a0), (1, .ref a1)]) E dX7_find_43 3 rfl rfl (by decide) rfl ?_
        refine x_goto (tgt := 11) E dX7_find_46 (by decide) ?_
        refine x_sub (L' := [(0, .ref a0), (1, .ref a1), (2, .int (x2 + (J 1)))]) [2, 3, 0] rfl ?_
        exact hk11 (M14, (x2 + (J 1))) h
theorem dX7_leastCost_0 : decode cX7_leastCost 0 = .ok (.aload_n 0, 1) := by decide +kernel
theorem dX7_leastCost_1 : decode cX7_leastCost 1 = .ok (.getfield 47, 3) := by decide +kernel
theorem dX7_leastCost_4 : decode cX7_leastCost 4 = .ok (.ireturn, 1) := by decide +kernel
set_option maxHeartbeats 4000000 in
set_option maxRecDepth 100000 in
theorem kX7_leastCost (l : Launch) (z : Nat) (D : va_G) (cA : Nat → ClassId) (a0 : Nat) (M : Mem) (K : Int32 → Prop) (h : PX7_leastCost a0 M K) : Met l yX7_leastCost (.code yX7_leastCost cX7_leastCost 1 (some .int) :: gtbl) ({ frames := 0, cells := 0, slots := 0, locals := 0 } : Room) (va_Pc [.ref a0] (xB z D cA M)) (va_Qi (fun r M1 => M1 = M ∧ K r) (xWd z D cA) (xA z)) 0 0 (xA z) := by
  refine x_met (by decide +kernel) (Nat.le_of_ble_eq_true rfl) (L0 := [(0, .ref a0)]) rfl ?_
  intro p e s m args below meth c E hr hlk hnm
  have E : xE RX7 cX7_leastCost 1 D cA p s m args c := E
  replace h := h.2
  refine x_aload_n E dX7_leastCost_0 rfl 0 rfl ?_
  obtain ⟨hT, v1, hv, h⟩ := h
  refine x_get E flX7_47 dX7_leastCost_1 hT hv ?_
  clear hT hv
  exact x_iret E hr hlk dX7_leastCost_4 ⟨rfl, h⟩
theorem dX7_shelfAt_0 : decode cX7_shelfAt 0 = .ok (.iload_n 1, 1) := by decide +kernel
theorem dX7_shelfAt_1 : decode cX7_shelfAt 1 = .ok (.aload_n 0, 1) := by decide +kernel
theorem dX7_shelfAt_2 : decode cX7_shelfAt 2 = .ok (.getfield 21, 3) := by decide +kernel
theorem dX7_shelfAt_5 : decode cX7_shelfAt 5 = .ok (.if_icmp .ge 14, 3) := by decide +kernel
theorem dX7_shelfAt_8 : decode cX7_shelfAt 8 = .ok (.aload_n 0, 1) := by decide +kernel
theorem dX7_shelfAt_9 : decode cX7_shelfAt 9 = .ok (.getfield 18, 3) := by decide +kernel
theorem dX7_shelfAt_12 : decode cX7_shelfAt 12 = .ok (.iload_n 1, 1) := by decide +kernel
theorem dX7_shelfAt_13 : decode cX7_shelfAt 13 = .ok (.invokestatic 50, 3) := by decide +kernel
theorem dX7_shelfAt_16 : decode cX7_shelfAt 16 = .ok (.goto 4, 3) := by decide +kernel
theorem dX7_shelfAt_19 : decode cX7_shelfAt 19 = .ok (.iconst (-1), 1) := by decide +kernel
theorem dX7_shelfAt_20 : decode cX7_shelfAt 20 = .ok (.ireturn, 1) := by decide +kernel
set_option maxHeartbeats 4000000 in
set_option maxRecDepth 100000 in
theorem kX7_shelfAt (l : Launch) (z : Nat) (D : va_G) (cA : Nat → ClassId) (a0 : Nat) (x1 : Int32) (M : Mem) (K : Int32 → Prop) (h : PX7_shelfAt a0 x1 M K) : Met l yX7_shelfAt (.code yX7_shelfAt cX7_shelfAt 2 (some .int) :: gtbl) ({ frames := 1, cells := 0, slots := 0, locals := 21 } : Room) (va_Pc [.ref a0, .int x1] (xB z D cA M)) (va_Qi (fun r M1 => M1 = M ∧ K r) (xWd z D cA) (xA z)) 0 0 (xA z) := by
  refine x_met (by decide +kernel) (Nat.le_of_ble_eq_true rfl) (L0 := [(0, .ref a0), (1, .int x1)]) rfl ?_
  intro p e s m args below meth c E hr hlk hnm
  have E : xE RX7 cX7_shelfAt 2 D cA p s m args c := E
  replace h := h.2
  refine x_iload_n E dX7_shelfAt_0 rfl 1 rfl ?_
  refine x_aload_n E dX7_shelfAt_1 rfl 0 rfl ?_
  obtain ⟨hT, v1, hv, h⟩ := h
  refine x_get E flX7_21 dX7_shelfAt_2 hT hv ?_
  clear hT hv
  refine x_icmp_ge (tgt := 19) E dX7_shelfAt_5 (by decide) (fun c2 => ?_) (fun c2 => ?_)
  · replace h := xbr_t h c2
    clear c2
    refine x_iconst (v := (J (-1))) E dX7_shelfAt_19 (by decide) ?_
    exact x_iret E hr hlk dX7_shelfAt_20 ⟨rfl, h⟩
  · replace h := xbr_f h c2
    clear c2
    refine x_aload_n E dX7_shelfAt_8 rfl 0 rfl ?_
    obtain ⟨hT, q3, hv, h⟩ := h
    refine x_get E flX7_18 dX7_shelfAt_9 hT hv ?_
    clear hT hv
    refine x_iload_n E dX7_shelfAt_12 rfl 1 rfl ?_
    refine x_callSNi (As := [.ref q3, .int x1]) E mlX7_50 stX10_entry (kX10_entry l z D cA q3 x1 M _ h) rfl ⟨rfl, rfl⟩ ⟨Nat.le_of_ble_eq_true rfl, Nat.le_of_ble_eq_true rfl⟩ ⟨(Nat.le_of_ble_eq_true rfl), (Nat.le_of_ble_eq_true rfl)⟩ (Nat.le_of_ble_eq_true rfl) rfl dX7_shelfAt_13 (x_pure (fun r4 h => ?_))
    refine x_goto (tgt := 20) E dX7_shelfAt_16 (by decide) ?_
    exact x_iret E hr hlk dX7_shelfAt_20 ⟨rfl, h⟩
theorem dX8_init_0 : decode cX8_init 0 = .ok (.aload_n 0, 1) := by decide +kernel
theorem dX8_init_1 : decode cX8_init 1 = .ok (.invokespecial 3, 3) := by decide +kernel
theorem dX8_init_4 : decode cX8_init 4 = .ok (.aload_n 0, 1) := by decide +kernel
theorem dX8_init_5 : decode cX8_init 5 = .ok (.bipush 8, 2) := by decide +kernel
theorem dX8_init_7 : decode cX8_init 7 = .ok (.newarray .int, 2) := by decide +kernel
theorem dX8_init_9 : decode cX8_init 9 = .ok (.putfield 9, 3) := by decide +kernel
theorem dX8_init_12 : decode cX8_init 12 = .ok (.iconst 0, 1) := by decide +kernel
theorem dX8_init_13 : decode cX8_init 13 = .ok (.istore_n 1, 1) := by decide +kernel
theorem dX8_init_14 : decode cX8_init 14 = .ok (.iload_n 1, 1) := by decide +kernel
theorem dX8_init_15 : decode cX8_init 15 = .ok (.bipush 8, 2) := by decide +kernel
theorem dX8_init_17 : decode cX8_init 17 = .ok (.if_icmp .ge 19, 3) := by decide +kernel
theorem dX8_init_20 : decode cX8_init 20 = .ok (.aload_n 0, 1) := by decide +kernel
theorem dX8_init_21 : decode cX8_init 21 = .ok (.getfield 9, 3) := by decide +kernel
theorem dX8_init_24 : decode cX8_init 24 = .ok (.iload_n 1, 1) := by decide +kernel
theorem dX8_init_25 : decode cX8_init 25 = .ok (.bipush 30, 2) := by decide +kernel
theorem dX8_init_27 : decode cX8_init 27 = .ok (.invokestatic 15, 3) := by decide +kernel
theorem dX8_init_30 : decode cX8_init 30 = .ok (.iinc 1 1, 3) := by decide +kernel
theorem dX8_init_33 : decode cX8_init 33 = .ok (.goto (-19), 3) := by decide +kernel
theorem dX8_init_36 : decode cX8_init 36 = .ok (.return_, 1) := by decide +kernel
set_option maxHeartbeats 4000000 in
set_option maxRecDepth 100000 in
theorem kX8_init (l : Launch) (z : Nat) (D : va_G) (cA : Nat → ClassId) (a0 : Nat) (M : Mem) (K : Mem → Prop) (h : PX8_init a0 M K) : Met l yX8_init (.code yX8_init cX8_init 2 none :: gtbl) ({ frames := 1, cells := 1, slots := 650, locals := 22 } : Room) (va_Pc [.ref a0] (xB z D cA M)) (va_Qv K (xWd z D cA) (xA z)) 1 650 (xA z) := by
  refine x_met (by decide +kernel) (Nat.le_of_ble_eq_true rfl) (L0 := [(0, .ref a0)]) rfl ?_
  intro p e s m args below meth c E hr hlk hnm
  have E : xE RX8 cX8_init 2 D cA p s m args c := E
  replace h := h.2
  refine x_aload_n E dX8_init_0 rfl 0 rfl ?_
  refine x_objInit E (gw 127 (by decide +kernel) rfl) (gw 21 (by decide +kernel) rfl) (gw 22 (by decide +kernel) rfl) dX8_init_1 (Nat.le_of_ble_eq_true rfl) (Nat.le_of_ble_eq_true rfl) ?_
  refine x_aload_n E dX8_init_4 rfl 0 rfl ?_
  refine x_bipush (v := (J 8)) E dX8_init_5 (by decide) ?_
  obtain ⟨hi, hN, h⟩ := h
  refine x_newa (q := 0) (N := 8) E (ty := .int) rfl rfl (fun _ h => by cases h) (gw 39 (by decide +kernel) rfl) hi hN (Nat.le_of_ble_eq_true rfl) (Nat.le_of_ble_eq_true rfl) (Nat.le_of_ble_eq_true rfl) dX8_init_7 (fun q1 M2 eq1 eM2 => ?_)
  replace h := h q1 M2 eq1 eM2
  clear eq1 eM2 hi hN
  obtain ⟨hT, h⟩ := h
  refine x_putF E flX8_9 (gw 131 (by decide +kernel) rfl) ⟨tyX8_ok, nmX8, rfl⟩ rfl hnm (by decide +kernel) rfl rfl dX8_init_9 hT (fun M3 eM3 => ?_)
  replace h := h M3 eM3
  clear hT eM3
  refine x_iconst (v := (J 0)) E dX8_init_12 (by decide) ?_
  refine x_istore_n (L' := [(1, .int (J 0)), (0, .ref a0)]) E dX8_init_13 rfl (by decide) rfl ?_
  refine x_sub (L' := [(0, .ref a0), (1, .int (J 0))]) [1, 0] rfl ?_
  refine lp_sound (T := fun sv => xG p l e ({ frames := 1, cells := 1, slots := 650, locals := 22 } : Room) s m args below meth c (MQ below (va_Qv K (xWd z D cA) (xA z)) args s 1 650 (xA z)) 2 z D cA sv.1 (0 + 1) (0 + 8) 14 [(0, .ref a0), (1, .int sv.2)] []) ?_ (M3, (J 0)) h
  clear h
  intro kc14 hk14 sv h
  obtain ⟨M, x1⟩ := sv
  replace h : CX8_init_14 K a0 kc14 M x1 := h
  try dsimp only
  refine x_iload_n E dX8_init_14 rfl 1 rfl ?_
  refine x_bipush (v := (J 8)) E dX8_init_15 (by decide) ?_
  refine x_icmp_ge (tgt := 36) E dX8_init_17 (by decide) (fun c4 => ?_) (fun c4 => ?_)
  · replace h := xbr_t h c4
    clear c4
    refine x_widen (k' := 1) (n' := 650) (Nat.le_of_ble_eq_true rfl) (Nat.le_of_ble_eq_true rfl) ?_
    exact x_vret E hr hlk dX8_init_36 h
  · replace h := xbr_f h c4
    clear c4
    refine x_aload_n E dX8_init_20 rfl 0 rfl ?_
    obtain ⟨hT, q5, hv, h⟩ := h
    refine x_get E flX8_9 dX8_init_21 hT hv ?_
    clear hT hv
    refine x_iload_n E dX8_init_24 rfl 1 rfl ?_
    refine x_bipush (v := (J 30)) E dX8_init_25 (by decide) ?_
    refine x_callSNv (As := [.ref q5, .int x1, .int (J 30)]) E mlX8_15 stX10_write (kX10_write l z D cA q5 x1 (J 30) M _ h) rfl ⟨rfl, rfl⟩ ⟨Nat.le_of_ble_eq_true rfl, Nat.le_of_ble_eq_true rfl⟩ ⟨(Nat.le_of_ble_eq_true rfl), (Nat.le_of_ble_eq_true rfl)⟩ (Nat.le_of_ble_eq_true rfl) rfl dX8_init_27 (fun M7 h => ?_)
    refine x_iinc (v := (x1 + (J 1))) (L' := [(1, .int (x1 + (J 1))), (0, .ref a0)]) E dX8_init_30 1 rfl rfl (by decide) rfl ?_
    refine x_goto (tgt := 14) E dX8_init_33 (by decide) ?_
    refine x_sub (L' := [(0, .ref a0), (1, .int (x1 + (J 1)))]) [1, 0] rfl ?_
    exact hk14 (M7, (x1 + (J 1))) h
theorem dX8_widthOf_0 : decode cX8_widthOf 0 = .ok (.aload_n 0, 1) := by decide +kernel
theorem dX8_widthOf_1 : decode cX8_widthOf 1 = .ok (.getfield 9, 3) := by decide +kernel
theorem dX8_widthOf_4 : decode cX8_widthOf 4 = .ok (.iload_n 1, 1) := by decide +kernel
theorem dX8_widthOf_5 : decode cX8_widthOf 5 = .ok (.invokestatic 19, 3) := by decide +kernel
theorem dX8_widthOf_8 : decode cX8_widthOf 8 = .ok (.ireturn, 1) := by decide +kernel
set_option maxHeartbeats 4000000 in
set_option maxRecDepth 100000 in
theorem kX8_widthOf (l : Launch) (z : Nat) (D : va_G) (cA : Nat → ClassId) (a0 : Nat) (x1 : Int32) (M : Mem) (K : Int32 → Prop) (h : PX8_widthOf a0 x1 M K) : Met l yX8_widthOf (.code yX8_widthOf cX8_widthOf 2 (some .int) :: gtbl) ({ frames := 1, cells := 0, slots := 0, locals := 21 } : Room) (va_Pc [.ref a0, .int x1] (xB z D cA M)) (va_Qi (fun r M1 => M1 = M ∧ K r) (xWd z D cA) (xA z)) 0 0 (xA z) := by
  refine x_met (by decide +kernel) (Nat.le_of_ble_eq_true rfl) (L0 := [(0, .ref a0), (1, .int x1)]) rfl ?_
  intro p e s m args below meth c E hr hlk hnm
  have E : xE RX8 cX8_widthOf 2 D cA p s m args c := E
  replace h := h.2
  refine x_aload_n E dX8_widthOf_0 rfl 0 rfl ?_
  obtain ⟨hT, q1, hv, h⟩ := h
  refine x_get E flX8_9 dX8_widthOf_1 hT hv ?_
  clear hT hv
  refine x_iload_n E dX8_widthOf_4 rfl 1 rfl ?_
  refine x_callSNi (As := [.ref q1, .int x1]) E mlX8_19 stX10_entry (kX10_entry l z D cA q1 x1 M _ h) rfl ⟨rfl, rfl⟩ ⟨Nat.le_of_ble_eq_true rfl, Nat.le_of_ble_eq_true rfl⟩ ⟨(Nat.le_of_ble_eq_true rfl), (Nat.le_of_ble_eq_true rfl)⟩ (Nat.le_of_ble_eq_true rfl) rfl dX8_widthOf_5 (x_pure (fun r2 h => ?_))
  exact x_iret E hr hlk dX8_widthOf_8 ⟨rfl, h⟩
theorem dX8_widen_0 : decode cX8_widen 0 = .ok (.aload_n 0, 1) := by decide +kernel
theorem dX8_widen_1 : decode cX8_widen 1 = .ok (.getfield 9, 3) := by decide +kernel
theorem dX8_widen_4 : decode cX8_widen 4 = .ok (.iload_n 1, 1) := by decide +kernel
theorem dX8_widen_5 : decode cX8_widen 5 = .ok (.iload_n 2, 1) := by decide +kernel
theorem dX8_widen_6 : decode cX8_widen 6 = .ok (.invokestatic 15, 3) := by decide +kernel
theorem dX8_widen_9 : decode cX8_widen 9 = .ok (.return_, 1) := by decide +kernel
set_option maxHeartbeats 4000000 in
set_option maxRecDepth 100000 in
theorem kX8_widen (l : Launch) (z : Nat) (D : va_G) (cA : Nat → ClassId) (a0 : Nat) (x1 : Int32) (x2 : Int32) (M : Mem) (K : Mem → Prop) (h : PX8_widen a0 x1 x2 M K) : Met l yX8_widen (.code yX8_widen cX8_widen 3 none :: gtbl) ({ frames := 1, cells := 0, slots := 0, locals := 22 } : Room) (va_Pc [.ref a0, .int x1, .int x2] (xB z D cA M)) (va_Qv K (xWd z D cA) (xA z)) 0 0 (xA z) := by
  refine x_met (by decide +kernel) (Nat.le_of_ble_eq_true rfl) (L0 := [(0, .ref a0), (1, .int x1), (2, .int x2)]) rfl ?_
  intro p e s m args below meth c E hr hlk hnm
  have E : xE RX8 cX8_widen 3 D cA p s m args c := E
  replace h := h.2
  refine x_aload_n E dX8_widen_0 rfl 0 rfl ?_
  obtain ⟨hT, q1, hv, h⟩ := h
  refine x_get E flX8_9 dX8_widen_1 hT hv ?_
  clear hT hv
  refine x_iload_n E dX8_widen_4 rfl 1 rfl ?_
  refine x_iload_n E dX8_widen_5 rfl 2 rfl ?_
  refine x_callSNv (As := [.ref q1, .int x1, .int x2]) E mlX8_15 stX10_write (kX10_write l z D cA q1 x1 x2 M _ h) rfl ⟨rfl, rfl⟩ ⟨Nat.le_of_ble_eq_true rfl, Nat.le_of_ble_eq_true rfl⟩ ⟨(Nat.le_of_ble_eq_true rfl), (Nat.le_of_ble_eq_true rfl)⟩ (Nat.le_of_ble_eq_true rfl) rfl dX8_widen_6 (fun M3 h => ?_)
  exact x_vret E hr hlk dX8_widen_9 h
theorem dX8_left_0 : decode cX8_left 0 = .ok (.aload_n 0, 1) := by decide +kernel
theorem dX8_left_1 : decode cX8_left 1 = .ok (.getfield 9, 3) := by decide +kernel
theorem dX8_left_4 : decode cX8_left 4 = .ok (.iload_n 3, 1) := by decide +kernel
theorem dX8_left_5 : decode cX8_left 5 = .ok (.invokestatic 19, 3) := by decide +kernel
theorem dX8_left_8 : decode cX8_left 8 = .ok (.istore 4, 2) := by decide +kernel
theorem dX8_left_10 : decode cX8_left 10 = .ok (.iconst 0, 1) := by decide +kernel
theorem dX8_left_11 : decode cX8_left 11 = .ok (.istore 5, 2) := by decide +kernel
theorem dX8_left_13 : decode cX8_left 13 = .ok (.iload 5, 2) := by decide +kernel
theorem dX8_left_15 : decode cX8_left 15 = .ok (.aload_n 2, 1) := by decide +kernel
theorem dX8_left_16 : decode cX8_left 16 = .ok (.invokevirtual 23, 3) := by decide +kernel
theorem dX8_left_19 : decode cX8_left 19 = .ok (.if_icmp .ge 33, 3) := by decide +kernel
theorem dX8_left_22 : decode cX8_left 22 = .ok (.aload_n 1, 1) := by decide +kernel
theorem dX8_left_23 : decode cX8_left 23 = .ok (.iload 5, 2) := by decide +kernel
theorem dX8_left_25 : decode cX8_left 25 = .ok (.invokevirtual 29, 3) := by decide +kernel
theorem dX8_left_28 : decode cX8_left 28 = .ok (.iload_n 3, 1) := by decide +kernel
theorem dX8_left_29 : decode cX8_left 29 = .ok (.if_icmp .ne 17, 3) := by decide +kernel
theorem dX8_left_32 : decode cX8_left 32 = .ok (.iload 4, 2) := by decide +kernel
theorem dX8_left_34 : decode cX8_left 34 = .ok (.aload_n 2, 1) := by decide +kernel
theorem dX8_left_35 : decode cX8_left 35 = .ok (.iload 5, 2) := by decide +kernel
theorem dX8_left_37 : decode cX8_left 37 = .ok (.invokevirtual 35, 3) := by decide +kernel
theorem dX8_left_40 : decode cX8_left 40 = .ok (.getfield 39, 3) := by decide +kernel
theorem dX8_left_43 : decode cX8_left 43 = .ok (.isub, 1) := by decide +kernel
theorem dX8_left_44 : decode cX8_left 44 = .ok (.istore 4, 2) := by decide +kernel
theorem dX8_left_46 : decode cX8_left 46 = .ok (.iinc 5 1, 3) := by decide +kernel
theorem dX8_left_49 : decode cX8_left 49 = .ok (.goto (-36), 3) := by decide +kernel
theorem dX8_left_52 : decode cX8_left 52 = .ok (.iload 4, 2) := by decide +kernel
theorem dX8_left_54 : decode cX8_left 54 = .ok (.ireturn, 1) := by decide +kernel
set_option maxHeartbeats 4000000 in
set_option maxRecDepth 100000 in
theorem kX8_left (l : Launch) (z : Nat) (D : va_G) (cA : Nat → ClassId) (a0 : Nat) (a1 : Nat) (a2 : Nat) (x3 : Int32) (M : Mem) (K : Int32 → Prop) (h : PX8_left a0 a1 a2 x3 M K) : Met l yX8_left (.code yX8_left cX8_left 6 (some .int) :: gtbl) ({ frames := 1, cells := 0, slots := 0, locals := 22 } : Room) (va_Pc [.ref a0, .ref a1, .ref a2, .int x3] (xB z D cA M)) (va_Qi (fun r M1 => M1 = M ∧ K r) (xWd z D cA) (xA z)) 0 0 (xA z) := by
  refine x_met (by decide +kernel) (Nat.le_of_ble_eq_true rfl) (L0 := [(0, .ref a0), (1, .ref a1), (2, .ref a2), (3, .int x3)]) rfl ?_
  intro p e s m args below meth c E hr hlk hnm
  have E : xE RX8 cX8_left 6 D cA p s m args c := E
  replace h := h.2
  refine x_aload_n E dX8_left_0 rfl 0 rfl ?_
  obtain ⟨hT, q1, hv, h⟩ := h
  refine x_get E flX8_9 dX8_left_1 hT hv ?_
  clear hT hv
  refine x_iload_n E dX8_left_4 rfl 3 rfl ?_
  refine x_callSNi (As := [.ref q1, .int x3]) E mlX8_19 stX10_entry (kX10_entry l z D cA q1 x3 M _ h) rfl ⟨rfl, rfl⟩ ⟨Nat.le_of_ble_eq_true rfl, Nat.le_of_ble_eq_true rfl⟩ ⟨(Nat.le_of_ble_eq_true rfl), (Nat.le_of_ble_eq_true rfl)⟩ (Nat.le_of_ble_eq_true rfl) rfl dX8_left_5 (x_pure (fun r2 h => ?_))
  refine x_istore (L' := [(4, .int r2), (0, .ref a0), (1, .ref a1), (2, .ref a2), (3, .int x3)]) E dX8_left_8 (by decide) rfl ?_
  refine x_iconst (v := (J 0)) E dX8_left_10 (by decide) ?_
  refine x_istore (L' := [(5, .int (J 0)), (4, .int r2), (0, .ref a0), (1, .ref a1), (2, .ref a2), (3, .int x3)]) E dX8_left_11 (by decide) rfl ?_
  refine x_sub (L' := [(1, .ref a1), (2, .ref a2), (3, .int x3), (4, .int r2), (5, .int (J 0))]) [3, 4, 5, 1, 0] rfl ?_
  refine lp_sound (T := fun sv => xG p l e ({ frames := 1, cells := 0, slots := 0, locals := 22 } : Room) s m args below meth c (MQ below (va_Qi (fun r M1 => M1 = M ∧ K r) (xWd z D cA) (xA z)) args s 0 0 (xA z)) 6 z D cA M (0) (0) 13 [(1, .ref a1), (2, .ref a2), (3, .int x3), (4, .int sv.1), (5, .int sv.2)] []) ?_ (r2, (J 0)) h
  clear h
  intro kc13 hk13 sv h
  obtain ⟨x4, x5⟩ := sv
  replace h : CX8_left_13 K M a1 a2 x3 kc13 x4 x5 := h
  try dsimp only
  refine x_iload E dX8_left_13 4 rfl ?_
  refine x_aload_n E dX8_left_15 rfl 1 rfl ?_
  refine x_callVi (T := TX2) (N := 4) (t := 3) (As := []) E mlX8_23 inX2_size seX2_size rfl ⟨by decide, by decide⟩ (tX2_size h) (kX2_size l z D cA a2 M _ h) rfl ⟨rfl, rfl⟩ ⟨Nat.le_of_ble_eq_true rfl, Nat.le_of_ble_eq_true rfl⟩ ⟨(Nat.le_of_ble_eq_true rfl), (Nat.le_of_ble_eq_true rfl)⟩ (Nat.le_of_ble_eq_true rfl) rfl dX8_left_16 (x_pure (fun r4 h => ?_))
  refine x_icmp_ge (tgt := 52) E dX8_left_19 (by decide) (fun c6 => ?_) (fun c6 => ?_)
  · replace h := xbr_t h c6
    clear c6
    refine x_iload E dX8_left_52 3 rfl ?_
    exact x_iret E hr hlk dX8_left_54 ⟨rfl, h⟩
  · replace h := xbr_f h c6
    clear c6
    refine x_aload_n E dX8_left_22 rfl 0 rfl ?_
    refine x_iload E dX8_left_23 4 rfl ?_
    refine x_callVi (T := TX6) (N := 3) (t := 7) (As := [.int x5]) E mlX8_29 inX6_shelfOf seX6_shelfOf rfl ⟨by decide, by decide⟩ (tX6_shelfOf h) (kX6_shelfOf l z D cA a1 x5 M _ h) rfl ⟨rfl, rfl⟩ ⟨Nat.le_of_ble_eq_true rfl, Nat.le_of_ble_eq_true rfl⟩ ⟨(Nat.le_of_ble_eq_true rfl), (Nat.le_of_ble_eq_true rfl)⟩ (Nat.le_of_ble_eq_true rfl) rfl dX8_left_25 (x_pure (fun r7 h => ?_))
    refine x_iload_n E dX8_left_28 rfl 2 rfl ?_
    refine x_icmp_ne (tgt := 46) E dX8_left_29 (by decide) (fun c9 => ?_) (fun c9 => ?_)
    · replace h := xbr_f h c9
      clear c9
      refine x_iinc (v := (x5 + (J 1))) (L' := [(5, .int (x5 + (J 1))), (1, .ref a1), (2, .ref a2), (3, .int x3), (4, .int x4)]) E dX8_left_46 4 rfl rfl (by decide) rfl ?_
      refine x_goto (tgt := 13) E dX8_left_49 (by decide) ?_
      refine x_sub (L' := [(1, .ref a1), (2, .ref a2), (3, .int x3), (4, .int x4), (5, .int (x5 + (J 1)))]) [1, 2, 3, 4, 0] rfl ?_
      exact hk13 (x4, (x5 + (J 1))) h
    · replace h := xbr_t h c9
      clear c9
      refine x_iload E dX8_left_32 3 rfl ?_
      refine x_aload_n E dX8_left_34 rfl 1 rfl ?_
      refine x_iload E dX8_left_35 4 rfl ?_
      refine x_callVr (T := TX2) (N := 4) (t := 3) (As := [.int x5]) E mlX8_35 inX2_of seX2_of rfl ⟨by decide, by decide⟩ (tX2_of h) (kX2_of l z D cA a2 x5 M _ h) rfl ⟨rfl, rfl⟩ ⟨Nat.le_of_ble_eq_true rfl, Nat.le_of_ble_eq_true rfl⟩ ⟨(Nat.le_of_ble_eq_true rfl), (Nat.le_of_ble_eq_true rfl)⟩ (Nat.le_of_ble_eq_true rfl) rfl dX8_left_37 (fun q10 h => ?_)
      obtain ⟨hT, v12, hv, h⟩ := h
      refine x_get E flX8_39 dX8_left_40 hT hv ?_
      clear hT hv
      refine x_isub E dX8_left_43 ?_
      obtain ⟨y13, ey13, h⟩ := h
      refine x_top (v := .int y13) (congrArg _ ey13) ?_
      clear ey13
      refine x_istore (L' := [(4, .int y13), (1, .ref a1), (2, .ref a2), (3, .int x3), (5, .int x5)]) E dX8_left_44 (by decide) rfl ?_
      refine x_iinc (v := (x5 + (J 1))) (L' := [(5, .int (x5 + (J 1))), (4, .int y13), (1, .ref a1), (2, .ref a2), (3, .int x3)]) E dX8_left_46 4 rfl rfl (by decide) rfl ?_
      refine x_goto (tgt := 13) E dX8_left_49 (by decide) ?_
      refine x_sub (L' := [(1, .ref a1), (2, .ref a2), (3, .int x3), (4, .int y13), (5, .int (x5 + (J 1)))]) [2, 3, 4, 1, 0] rfl ?_
      exact hk13 (y13, (x5 + (J 1))) h
theorem dX8_hold_0 : decode cX8_hold 0 = .ok (.iconst 0, 1) := by decide +kernel
theorem dX8_hold_1 : decode cX8_hold 1 = .ok (.istore_n 3, 1) := by decide +kernel
theorem dX8_hold_2 : decode cX8_hold 2 = .ok (.iload_n 3, 1) := by decide +kernel
theorem dX8_hold_3 : decode cX8_hold 3 = .ok (.bipush 8, 2) := by decide +kernel
theorem dX8_hold_5 : decode cX8_hold 5 = .ok (.if_icmp .ge 21, 3) := by decide +kernel
theorem dX8_hold_8 : decode cX8_hold 8 = .ok (.aload_n 0, 1) := by decide +kernel
theorem dX8_hold_9 : decode cX8_hold 9 = .ok (.aload_n 1, 1) := by decide +kernel
theorem dX8_hold_10 : decode cX8_hold 10 = .ok (.aload_n 2, 1) := by decide +kernel
theorem dX8_hold_11 : decode cX8_hold 11 = .ok (.iload_n 3, 1) := by decide +kernel
theorem dX8_hold_12 : decode cX8_hold 12 = .ok (.invokevirtual 45, 3) := by decide +kernel
theorem dX8_hold_15 : decode cX8_hold 15 = .ok (.ifCond .ge 5, 3) := by decide +kernel
theorem dX8_hold_18 : decode cX8_hold 18 = .ok (.iconst 0, 1) := by decide +kernel
theorem dX8_hold_19 : decode cX8_hold 19 = .ok (.ireturn, 1) := by decide +kernel
theorem dX8_hold_20 : decode cX8_hold 20 = .ok (.iinc 3 1, 3) := by decide +kernel
theorem dX8_hold_23 : decode cX8_hold 23 = .ok (.goto (-21), 3) := by decide +kernel
theorem dX8_hold_26 : decode cX8_hold 26 = .ok (.iconst 1, 1) := by decide +kernel
theorem dX8_hold_27 : decode cX8_hold 27 = .ok (.ireturn, 1) := by decide +kernel
set_option maxHeartbeats 4000000 in
set_option maxRecDepth 100000 in
theorem kX8_hold (l : Launch) (z : Nat) (D : va_G) (cA : Nat → ClassId) (a0 : Nat) (a1 : Nat) (a2 : Nat) (M : Mem) (K : Int32 → Prop) (h : PX8_hold a0 a1 a2 M K) : Met l yX8_hold (.code yX8_hold cX8_hold 4 (some .boolean) :: gtbl) ({ frames := 2, cells := 0, slots := 0, locals := 47 } : Room) (va_Pc [.ref a0, .ref a1, .ref a2] (xB z D cA M)) (va_Qi (fun r M1 => M1 = M ∧ K r) (xWd z D cA) (xA z)) 0 0 (xA z) := by
  refine x_met (by decide +kernel) (Nat.le_of_ble_eq_true rfl) (L0 := [(0, .ref a0), (1, .ref a1), (2, .ref a2)]) rfl ?_
  intro p e s m args below meth c E hr hlk hnm
  have E : xE RX8 cX8_hold 4 D cA p s m args c := E
  replace h := h.2
  refine x_iconst (v := (J 0)) E dX8_hold_0 (by decide) ?_
  refine x_istore_n (L' := [(3, .int (J 0)), (0, .ref a0), (1, .ref a1), (2, .ref a2)]) E dX8_hold_1 rfl (by decide) rfl ?_
  refine x_sub (L' := [(0, .ref a0), (1, .ref a1), (2, .ref a2), (3, .int (J 0))]) [1, 2, 3, 0] rfl ?_
  refine lp_sound (T := fun sv => xG p l e ({ frames := 2, cells := 0, slots := 0, locals := 47 } : Room) s m args below meth c (MQ below (va_Qi (fun r M1 => M1 = M ∧ K r) (xWd z D cA) (xA z)) args s 0 0 (xA z)) 4 z D cA M (0) (0) 2 [(0, .ref a0), (1, .ref a1), (2, .ref a2), (3, .int sv)] []) ?_ (J 0) h
  clear h
  intro kc2 hk2 sv h
  obtain ⟨x3, esv⟩ : ∃ y, y = sv := ⟨_, rfl⟩
  subst esv
  replace h : CX8_hold_2 K M a0 a1 a2 kc2 x3 := h
  try dsimp only
  refine x_iload_n E dX8_hold_2 rfl 3 rfl ?_
  refine x_bipush (v := (J 8)) E dX8_hold_3 (by decide) ?_
  refine x_icmp_ge (tgt := 26) E dX8_hold_5 (by decide) (fun c1 => ?_) (fun c1 => ?_)
  · replace h := xbr_t h c1
    clear c1
    refine x_iconst (v := (J 1)) E dX8_hold_26 (by decide) ?_
    exact x_zret E hr hlk dX8_hold_27 h.1 ⟨rfl, h.2⟩
  · replace h := xbr_f h c1
    clear c1
    refine x_aload_n E dX8_hold_8 rfl 0 rfl ?_
    refine x_aload_n E dX8_hold_9 rfl 1 rfl ?_
    refine x_aload_n E dX8_hold_10 rfl 2 rfl ?_
    refine x_iload_n E dX8_hold_11 rfl 3 rfl ?_
    refine x_callVi (T := TX8) (N := 1) (t := 9) (As := [.ref a1, .ref a2, .int x3]) E mlX8_45 inX8_left seX8_left rfl ⟨by decide, by decide⟩ (tX8_left h) (kX8_left l z D cA a0 a1 a2 x3 M _ h) rfl ⟨rfl, rfl⟩ ⟨Nat.le_of_ble_eq_true rfl, Nat.le_of_ble_eq_true rfl⟩ ⟨(Nat.le_of_ble_eq_true rfl), (Nat.le_of_ble_eq_true rfl)⟩ (Nat.le_of_ble_eq_true rfl) rfl dX8_hold_12 (x_pure (fun r2 h => ?_))
    refine x_if_ge (tgt := 20) E dX8_hold_15 (by decide) (fun c4 => ?_) (fun c4 => ?_)
    · replace h := xbr_t h c4
      clear c4
      refine x_iinc (v := (x3 + (J 1))) (L' := [(3, .int (x3 + (J 1))), (0, .ref a0), (1, .ref a1), (2, .ref a2)]) E dX8_hold_20 3 rfl rfl (by decide) rfl ?_
      refine x_goto (tgt := 2) E dX8_hold_23 (by decide) ?_
      refine x_sub (L' := [(0, .ref a0), (1, .ref a1), (2, .ref a2), (3, .int (x3 + (J 1)))]) [1, 2, 3, 0] rfl ?_
      exact hk2 (x3 + (J 1)) h
    · replace h := xbr_f h c4
      clear c4
      refine x_iconst (v := (J 0)) E dX8_hold_18 (by decide) ?_
      exact x_zret E hr hlk dX8_hold_19 h.1 ⟨rfl, h.2⟩
theorem dX10_isShelf_0 : decode cX10_isShelf 0 = .ok (.iload_n 0, 1) := by decide +kernel
theorem dX10_isShelf_1 : decode cX10_isShelf 1 = .ok (.ifCond .lt 13, 3) := by decide +kernel
theorem dX10_isShelf_4 : decode cX10_isShelf 4 = .ok (.iload_n 0, 1) := by decide +kernel
theorem dX10_isShelf_5 : decode cX10_isShelf 5 = .ok (.bipush 8, 2) := by decide +kernel
theorem dX10_isShelf_7 : decode cX10_isShelf 7 = .ok (.if_icmp .ge 7, 3) := by decide +kernel
theorem dX10_isShelf_10 : decode cX10_isShelf 10 = .ok (.iconst 1, 1) := by decide +kernel
theorem dX10_isShelf_11 : decode cX10_isShelf 11 = .ok (.goto 4, 3) := by decide +kernel
theorem dX10_isShelf_14 : decode cX10_isShelf 14 = .ok (.iconst 0, 1) := by decide +kernel
theorem dX10_isShelf_15 : decode cX10_isShelf 15 = .ok (.ireturn, 1) := by decide +kernel
set_option maxHeartbeats 4000000 in
set_option maxRecDepth 100000 in
theorem kX10_isShelf (l : Launch) (z : Nat) (D : va_G) (cA : Nat → ClassId) (x0 : Int32) (M : Mem) (K : Int32 → Prop) (h : PX10_isShelf x0 M K) : Met l yX10_isShelf (.code yX10_isShelf cX10_isShelf 1 (some .boolean) :: gtbl) ({ frames := 0, cells := 0, slots := 0, locals := 0 } : Room) (va_Pc [.int x0] (xB z D cA M)) (va_Qi (fun r M1 => M1 = M ∧ K r) (xWd z D cA) (xA z)) 0 0 (xA z) := by
  refine x_met (by decide +kernel) (Nat.le_of_ble_eq_true rfl) (L0 := [(0, .int x0)]) rfl ?_
  intro p e s m args below meth c E hr hlk hnm
  have E : xE RX10 cX10_isShelf 1 D cA p s m args c := E
  refine x_iload_n E dX10_isShelf_0 rfl 0 rfl ?_
  refine x_if_lt (tgt := 14) E dX10_isShelf_1 (by decide) (fun c1 => ?_) (fun c1 => ?_)
  · replace h := xbr_t h c1
    clear c1
    refine x_iconst (v := (J 0)) E dX10_isShelf_14 (by decide) ?_
    exact x_zret E hr hlk dX10_isShelf_15 h.1 ⟨rfl, h.2⟩
  · replace h := xbr_f h c1
    clear c1
    refine x_iload_n E dX10_isShelf_4 rfl 0 rfl ?_
    refine x_bipush (v := (J 8)) E dX10_isShelf_5 (by decide) ?_
    refine x_icmp_ge (tgt := 14) E dX10_isShelf_7 (by decide) (fun c2 => ?_) (fun c2 => ?_)
    · replace h := xbr_t h c2
      clear c2
      refine x_iconst (v := (J 0)) E dX10_isShelf_14 (by decide) ?_
      exact x_zret E hr hlk dX10_isShelf_15 h.1 ⟨rfl, h.2⟩
    · replace h := xbr_f h c2
      clear c2
      refine x_iconst (v := (J 1)) E dX10_isShelf_10 (by decide) ?_
      refine x_goto (tgt := 15) E dX10_isShelf_11 (by decide) ?_
      exact x_zret E hr hlk dX10_isShelf_15 h.1 ⟨rfl, h.2⟩
theorem dX8_relieve_0 : decode cX8_relieve 0 = .ok (.aload_n 1, 1) := by decide +kernel
theorem dX8_relieve_1 : decode cX8_relieve 1 = .ok (.iload_n 3, 1) := by decide +kernel
theorem dX8_relieve_2 : decode cX8_relieve 2 = .ok (.invokevirtual 71, 3) := by decide +kernel
theorem dX8_relieve_5 : decode cX8_relieve 5 = .ok (.istore 6, 2) := by decide +kernel
theorem dX8_relieve_7 : decode cX8_relieve 7 = .ok (.iload 6, 2) := by decide +kernel
theorem dX8_relieve_9 : decode cX8_relieve 9 = .ok (.ifCond .le 48, 3) := by decide +kernel
theorem dX8_relieve_12 : decode cX8_relieve 12 = .ok (.aload_n 0, 1) := by decide +kernel
theorem dX8_relieve_13 : decode cX8_relieve 13 = .ok (.aload_n 1, 1) := by decide +kernel
theorem dX8_relieve_14 : decode cX8_relieve 14 = .ok (.aload_n 2, 1) := by decide +kernel
theorem dX8_relieve_15 : decode cX8_relieve 15 = .ok (.iload_n 3, 1) := by decide +kernel
theorem dX8_relieve_16 : decode cX8_relieve 16 = .ok (.invokevirtual 45, 3) := by decide +kernel
theorem dX8_relieve_19 : decode cX8_relieve 19 = .ok (.iload 4, 2) := by decide +kernel
theorem dX8_relieve_21 : decode cX8_relieve 21 = .ok (.if_icmp .ge 36, 3) := by decide +kernel
theorem dX8_relieve_24 : decode cX8_relieve 24 = .ok (.iload_n 3, 1) := by decide +kernel
theorem dX8_relieve_25 : decode cX8_relieve 25 = .ok (.iload 5, 2) := by decide +kernel
theorem dX8_relieve_27 : decode cX8_relieve 27 = .ok (.iadd, 1) := by decide +kernel
theorem dX8_relieve_28 : decode cX8_relieve 28 = .ok (.invokestatic 64, 3) := by decide +kernel
theorem dX8_relieve_31 : decode cX8_relieve 31 = .ok (.ifCond .ne 5, 3) := by decide +kernel
theorem dX8_relieve_34 : decode cX8_relieve 34 = .ok (.iconst 0, 1) := by decide +kernel
theorem dX8_relieve_35 : decode cX8_relieve 35 = .ok (.ireturn, 1) := by decide +kernel
theorem dX8_relieve_36 : decode cX8_relieve 36 = .ok (.aload_n 1, 1) := by decide +kernel
theorem dX8_relieve_37 : decode cX8_relieve 37 = .ok (.aload_n 1, 1) := by decide +kernel
theorem dX8_relieve_38 : decode cX8_relieve 38 = .ok (.iload_n 3, 1) := by decide +kernel
theorem dX8_relieve_39 : decode cX8_relieve 39 = .ok (.iload 5, 2) := by decide +kernel
theorem dX8_relieve_41 : decode cX8_relieve 41 = .ok (.invokevirtual 74, 3) := by decide +kernel
theorem dX8_relieve_44 : decode cX8_relieve 44 = .ok (.iload_n 3, 1) := by decide +kernel
theorem dX8_relieve_45 : decode cX8_relieve 45 = .ok (.iload 5, 2) := by decide +kernel
theorem dX8_relieve_47 : decode cX8_relieve 47 = .ok (.iadd, 1) := by decide +kernel
theorem dX8_relieve_48 : decode cX8_relieve 48 = .ok (.invokevirtual 78, 3) := by decide +kernel
theorem dX8_relieve_51 : decode cX8_relieve 51 = .ok (.iinc 6 (-1), 3) := by decide +kernel
theorem dX8_relieve_54 : decode cX8_relieve 54 = .ok (.goto (-47), 3) := by decide +kernel
theorem dX8_relieve_57 : decode cX8_relieve 57 = .ok (.aload_n 0, 1) := by decide +kernel
theorem dX8_relieve_58 : decode cX8_relieve 58 = .ok (.aload_n 1, 1) := by decide +kernel
theorem dX8_relieve_59 : decode cX8_relieve 59 = .ok (.aload_n 2, 1) := by decide +kernel
theorem dX8_relieve_60 : decode cX8_relieve 60 = .ok (.iload_n 3, 1) := by decide +kernel
theorem dX8_relieve_61 : decode cX8_relieve 61 = .ok (.invokevirtual 45, 3) := by decide +kernel
theorem dX8_relieve_64 : decode cX8_relieve 64 = .ok (.iload 4, 2) := by decide +kernel
theorem dX8_relieve_66 : decode cX8_relieve 66 = .ok (.if_icmp .lt 7, 3) := by decide +kernel
theorem dX8_relieve_69 : decode cX8_relieve 69 = .ok (.iconst 1, 1) := by decide +kernel
theorem dX8_relieve_70 : decode cX8_relieve 70 = .ok (.goto 4, 3) := by decide +kernel
theorem dX8_relieve_73 : decode cX8_relieve 73 = .ok (.iconst 0, 1) := by decide +kernel
theorem dX8_relieve_74 : decode cX8_relieve 74 = .ok (.ireturn, 1) := by decide +kernel
set_option maxHeartbeats 4000000 in
set_option maxRecDepth 100000 in
theorem kX8_relieve (l : Launch) (z : Nat) (D : va_G) (cA : Nat → ClassId) (a0 : Nat) (a1 : Nat) (a2 : Nat) (x3 : Int32) (x4 : Int32) (x5 : Int32) (M : Mem) (K : Int32 → Mem → Prop) (h : PX8_relieve a0 a1 a2 x3 x4 x5 M K) : Met l yX8_relieve (.code yX8_relieve cX8_relieve 7 (some .boolean) :: gtbl) ({ frames := 2, cells := 0, slots := 0, locals := 48 } : Room) (va_Pc [.ref a0, .ref a1, .ref a2, .int x3, .int x4, .int x5] (xB z D cA M)) (va_Qi K (xWd z D cA) (xA z)) 0 0 (xA z) := by
  refine x_met (by decide +kernel) (Nat.le_of_ble_eq_true rfl) (L0 := [(0, .ref a0), (1, .ref a1), (2, .ref a2), (3, .int x3), (4, .int x4), (5, .int x5)]) rfl ?_
  intro p e s m args below meth c E hr hlk hnm
  have E : xE RX8 cX8_relieve 7 D cA p s m args c := E
  have hJ57 : ∀ (M : Mem) (j0 : Nat) (j1 : Nat) (j2 : Nat) (j3 : Int32) (j4 : Int32), JX8_relieve_57 K M j0 j1 j2 j3 j4 → xG p l e ({ frames := 2, cells := 0, slots := 0, locals := 48 } : Room) s m args below meth c (MQ below (va_Qi K (xWd z D cA) (xA z)) args s 0 0 (xA z)) 7 z D cA M (0) (0) 57 [(0, .ref j0), (1, .ref j1), (2, .ref j2), (3, .int j3), (4, .int j4)] [] := by
    intro M j0 j1 j2 j3 j4 h
    refine x_aload_n E dX8_relieve_57 rfl 0 rfl ?_
    refine x_aload_n E dX8_relieve_58 rfl 1 rfl ?_
    refine x_aload_n E dX8_relieve_59 rfl 2 rfl ?_
    refine x_iload_n E dX8_relieve_60 rfl 3 rfl ?_
    refine x_callVi (T := TX8) (N := 1) (t := 9) (As := [.ref j1, .ref j2, .int j3]) E mlX8_45 inX8_left seX8_left rfl ⟨by decide, by decide⟩ (tX8_left h) (kX8_left l z D cA j0 j1 j2 j3 M _ h) rfl ⟨rfl, rfl⟩ ⟨Nat.le_of_ble_eq_true rfl, Nat.le_of_ble_eq_true rfl⟩ ⟨(Nat.le_of_ble_eq_true rfl), (Nat.le_of_ble_eq_true rfl)⟩ (Nat.le_of_ble_eq_true rfl) rfl dX8_relieve_61 (x_pure (fun r4 h => ?_))
    refine x_iload E dX8_relieve_64 4 rfl ?_
    refine x_icmp_lt (tgt := 73) E dX8_relieve_66 (by decide) (fun c6 => ?_) (fun c6 => ?_)
    · replace h := xbr_t h c6
      clear c6
      refine x_iconst (v := (J 0)) E dX8_relieve_73 (by decide) ?_
      exact x_zret E hr hlk dX8_relieve_74 h.1 h.2
    · replace h := xbr_f h c6
      clear c6
      refine x_iconst (v := (J 1)) E dX8_relieve_69 (by decide) ?_
      refine x_goto (tgt := 74) E dX8_relieve_70 (by decide) ?_
      exact x_zret E hr hlk dX8_relieve_74 h.1 h.2
  replace h := h.2
  refine x_aload_n E dX8_relieve_0 rfl 1 rfl ?_
  refine x_iload_n E dX8_relieve_1 rfl 3 rfl ?_
  refine x_callVi (T := TX6) (N := 3) (t := 7) (As := [.int x3]) E mlX8_71 inX6_amount seX6_amount rfl ⟨by decide, by decide⟩ (tX6_amount h) (kX6_amount l z D cA a1 x3 M _ h) rfl ⟨rfl, rfl⟩ ⟨Nat.le_of_ble_eq_true rfl, Nat.le_of_ble_eq_true rfl⟩ ⟨(Nat.le_of_ble_eq_true rfl), (Nat.le_of_ble_eq_true rfl)⟩ (Nat.le_of_ble_eq_true rfl) rfl dX8_relieve_2 (x_pure (fun r1 h => ?_))
  refine x_istore (L' := [(6, .int r1), (0, .ref a0), (1, .ref a1), (2, .ref a2), (3, .int x3), (4, .int x4), (5, .int x5)]) E dX8_relieve_5 (by decide) rfl ?_
  refine x_sub (L' := [(0, .ref a0), (1, .ref a1), (2, .ref a2), (3, .int x3), (4, .int x4), (5, .int x5), (6, .int r1)]) [1, 2, 3, 4, 5, 6, 0] rfl ?_
  refine lp_sound (T := fun sv => xG p l e ({ frames := 2, cells := 0, slots := 0, locals := 48 } : Room) s m args below meth c (MQ below (va_Qi K (xWd z D cA) (xA z)) args s 0 0 (xA z)) 7 z D cA sv.1 (0) (0) 7 [(0, .ref a0), (1, .ref a1), (2, .ref a2), (3, .int x3), (4, .int x4), (5, .int x5), (6, .int sv.2)] []) ?_ (M, r1) h
  clear h
  intro kc7 hk7 sv h
  obtain ⟨M, x6⟩ := sv
  replace h : CX8_relieve_7 K a0 a1 a2 x3 x4 x5 kc7 M x6 := h
  try dsimp only
  refine x_iload E dX8_relieve_7 6 rfl ?_
  refine x_if_le (tgt := 57) E dX8_relieve_9 (by decide) (fun c3 => ?_) (fun c3 => ?_)
  · replace h := xbr_t h c3
    clear c3
    refine x_sub (L' := [(0, .ref a0), (1, .ref a1), (2, .ref a2), (3, .int x3), (4, .int x4)]) [0, 1, 2, 3, 4] rfl ?_
    exact hJ57 M a0 a1 a2 x3 x4 h
  · replace h := xbr_f h c3
    clear c3
    refine x_aload_n E dX8_relieve_12 rfl 0 rfl ?_
    refine x_aload_n E dX8_relieve_13 rfl 1 rfl ?_
    refine x_aload_n E dX8_relieve_14 rfl 2 rfl ?_
    refine x_iload_n E dX8_relieve_15 rfl 3 rfl ?_
    refine x_callVi (T := TX8) (N := 1) (t := 9) (As := [.ref a1, .ref a2, .int x3]) E mlX8_45 inX8_left seX8_left rfl ⟨by decide, by decide⟩ (tX8_left h) (kX8_left l z D cA a0 a1 a2 x3 M _ h) rfl ⟨rfl, rfl⟩ ⟨Nat.le_of_ble_eq_true rfl, Nat.le_of_ble_eq_true rfl⟩ ⟨(Nat.le_of_ble_eq_true rfl), (Nat.le_of_ble_eq_true rfl)⟩ (Nat.le_of_ble_eq_true rfl) rfl dX8_relieve_16 (x_pure (fun r7 h => ?_))
    refine x_iload E dX8_relieve_19 4 rfl ?_
    refine x_icmp_ge (tgt := 57) E dX8_relieve_21 (by decide) (fun c9 => ?_) (fun c9 => ?_)
    · replace h := xbr_t h c9
      clear c9
      refine x_sub (L' := [(0, .ref a0), (1, .ref a1), (2, .ref a2), (3, .int x3), (4, .int x4)]) [0, 1, 2, 3, 4] rfl ?_
      exact hJ57 M a0 a1 a2 x3 x4 h
    · replace h := xbr_f h c9
      clear c9
      refine x_iload_n E dX8_relieve_24 rfl 3 rfl ?_
      refine x_iload E dX8_relieve_25 5 rfl ?_
      refine x_iadd E dX8_relieve_27 ?_
      refine x_callSNi (As := [.int (x3 + x5)]) E mlX8_64 stX10_isShelf (kX10_isShelf l z D cA (x3 + x5) M _ h) rfl ⟨rfl, rfl⟩ ⟨Nat.le_of_ble_eq_true rfl, Nat.le_of_ble_eq_true rfl⟩ ⟨(Nat.le_of_ble_eq_true rfl), (Nat.le_of_ble_eq_true rfl)⟩ (Nat.le_of_ble_eq_true rfl) rfl dX8_relieve_28 (x_pure (fun r10 h => ?_))
      refine x_if_ne (tgt := 36) E dX8_relieve_31 (by decide) (fun c12 => ?_) (fun c12 => ?_)
      · replace h := xbr_f h c12
        clear c12
        refine x_aload_n E dX8_relieve_36 rfl 1 rfl ?_
        refine x_aload_n E dX8_relieve_37 rfl 1 rfl ?_
        refine x_iload_n E dX8_relieve_38 rfl 3 rfl ?_
        refine x_iload E dX8_relieve_39 5 rfl ?_
        refine x_callVi (T := TX6) (N := 3) (t := 7) (As := [.int x3, .int x5]) E mlX8_74 inX6_edge seX6_edge rfl ⟨by decide, by decide⟩ (tX6_edge h) (kX6_edge l z D cA a1 x3 x5 M _ h) rfl ⟨rfl, rfl⟩ ⟨Nat.le_of_ble_eq_true rfl, Nat.le_of_ble_eq_true rfl⟩ ⟨(Nat.le_of_ble_eq_true rfl), (Nat.le_of_ble_eq_true rfl)⟩ (Nat.le_of_ble_eq_true rfl) rfl dX8_relieve_41 (x_pure (fun r13 h => ?_))
        refine x_iload_n E dX8_relieve_44 rfl 3 rfl ?_
        refine x_iload E dX8_relieve_45 5 rfl ?_
        refine x_iadd E dX8_relieve_47 ?_
        refine x_callVv (T := TX6) (N := 3) (t := 7) (As := [.int r13, .int (x3 + x5)]) E mlX8_78 inX6_pass seX6_pass rfl ⟨by decide, by decide⟩ (tX6_pass h) (kX6_pass l z D cA a1 r13 (x3 + x5) M _ h) rfl ⟨rfl, rfl⟩ ⟨Nat.le_of_ble_eq_true rfl, Nat.le_of_ble_eq_true rfl⟩ ⟨(Nat.le_of_ble_eq_true rfl), (Nat.le_of_ble_eq_true rfl)⟩ (Nat.le_of_ble_eq_true rfl) rfl dX8_relieve_48 (fun M16 h => ?_)
        refine x_iinc (v := (x6 + (J (-1)))) (L' := [(6, .int (x6 + (J (-1)))), (0, .ref a0), (1, .ref a1), (2, .ref a2), (3, .int x3), (4, .int x4), (5, .int x5)]) E dX8_relieve_51 6 rfl rfl (by decide) rfl ?_
        refine x_goto (tgt := 7) E dX8_relieve_54 (by decide) ?_
        refine x_sub (L' := [(0, .ref a0), (1, .ref a1), (2, .ref a2), (3, .int x3), (4, .int x4), (5, .int x5), (6, .int (x6 + (J (-1))))]) [1, 2, 3, 4, 5, 6, 0] rfl ?_
        exact hk7 (M16, (x6 + (J (-1)))) h
      · replace h := xbr_t h c12
        clear c12
        refine x_iconst (v := (J 0)) E dX8_relieve_34 (by decide) ?_
        exact x_zret E hr hlk dX8_relieve_35 h.1 h.2
theorem dX8_pushAway_0 : decode cX8_pushAway 0 = .ok (.iload 4, 2) := by decide +kernel
theorem dX8_pushAway_2 : decode cX8_pushAway 2 = .ok (.istore 6, 2) := by decide +kernel
theorem dX8_pushAway_4 : decode cX8_pushAway 4 = .ok (.iconst 0, 1) := by decide +kernel
theorem dX8_pushAway_5 : decode cX8_pushAway 5 = .ok (.istore 7, 2) := by decide +kernel
theorem dX8_pushAway_7 : decode cX8_pushAway 7 = .ok (.iload 7, 2) := by decide +kernel
theorem dX8_pushAway_9 : decode cX8_pushAway 9 = .ok (.bipush 8, 2) := by decide +kernel
theorem dX8_pushAway_11 : decode cX8_pushAway 11 = .ok (.if_icmp .ge 48, 3) := by decide +kernel
theorem dX8_pushAway_14 : decode cX8_pushAway 14 = .ok (.iload_n 3, 1) := by decide +kernel
theorem dX8_pushAway_15 : decode cX8_pushAway 15 = .ok (.iload 7, 2) := by decide +kernel
theorem dX8_pushAway_17 : decode cX8_pushAway 17 = .ok (.iload 5, 2) := by decide +kernel
theorem dX8_pushAway_19 : decode cX8_pushAway 19 = .ok (.imul, 1) := by decide +kernel
theorem dX8_pushAway_20 : decode cX8_pushAway 20 = .ok (.iadd, 1) := by decide +kernel
theorem dX8_pushAway_21 : decode cX8_pushAway 21 = .ok (.istore 8, 2) := by decide +kernel
theorem dX8_pushAway_23 : decode cX8_pushAway 23 = .ok (.iload 8, 2) := by decide +kernel
theorem dX8_pushAway_25 : decode cX8_pushAway 25 = .ok (.invokestatic 64, 3) := by decide +kernel
theorem dX8_pushAway_28 : decode cX8_pushAway 28 = .ok (.ifCond .ne 5, 3) := by decide +kernel
theorem dX8_pushAway_31 : decode cX8_pushAway 31 = .ok (.iconst 1, 1) := by decide +kernel
theorem dX8_pushAway_32 : decode cX8_pushAway 32 = .ok (.ireturn, 1) := by decide +kernel
theorem dX8_pushAway_33 : decode cX8_pushAway 33 = .ok (.aload_n 0, 1) := by decide +kernel
theorem dX8_pushAway_34 : decode cX8_pushAway 34 = .ok (.aload_n 1, 1) := by decide +kernel
theorem dX8_pushAway_35 : decode cX8_pushAway 35 = .ok (.aload_n 2, 1) := by decide +kernel
theorem dX8_pushAway_36 : decode cX8_pushAway 36 = .ok (.iload 8, 2) := by decide +kernel
theorem dX8_pushAway_38 : decode cX8_pushAway 38 = .ok (.iload 6, 2) := by decide +kernel
theorem dX8_pushAway_40 : decode cX8_pushAway 40 = .ok (.iload 5, 2) := by decide +kernel
theorem dX8_pushAway_42 : decode cX8_pushAway 42 = .ok (.invokevirtual 68, 3) := by decide +kernel
theorem dX8_pushAway_45 : decode cX8_pushAway 45 = .ok (.ifCond .ne 5, 3) := by decide +kernel
theorem dX8_pushAway_48 : decode cX8_pushAway 48 = .ok (.iconst 0, 1) := by decide +kernel
theorem dX8_pushAway_49 : decode cX8_pushAway 49 = .ok (.ireturn, 1) := by decide +kernel
theorem dX8_pushAway_50 : decode cX8_pushAway 50 = .ok (.iconst 0, 1) := by decide +kernel
theorem dX8_pushAway_51 : decode cX8_pushAway 51 = .ok (.istore 6, 2) := by decide +kernel
theorem dX8_pushAway_53 : decode cX8_pushAway 53 = .ok (.iinc 7 1, 3) := by decide +kernel
theorem dX8_pushAway_56 : decode cX8_pushAway 56 = .ok (.goto (-49), 3) := by decide +kernel
theorem dX8_pushAway_59 : decode cX8_pushAway 59 = .ok (.iconst 1, 1) := by decide +kernel
theorem dX8_pushAway_60 : decode cX8_pushAway 60 = .ok (.ireturn, 1) := by decide +kernel
set_option maxHeartbeats 4000000 in
set_option maxRecDepth 100000 in
theorem kX8_pushAway (l : Launch) (z : Nat) (D : va_G) (cA : Nat → ClassId) (a0 : Nat) (a1 : Nat) (a2 : Nat) (x3 : Int32) (x4 : Int32) (x5 : Int32) (M : Mem) (K : Int32 → Mem → Prop) (h : PX8_pushAway a0 a1 a2 x3 x4 x5 M K) : Met l yX8_pushAway (.code yX8_pushAway cX8_pushAway 9 (some .boolean) :: gtbl) ({ frames := 3, cells := 0, slots := 0, locals := 74 } : Room) (va_Pc [.ref a0, .ref a1, .ref a2, .int x3, .int x4, .int x5] (xB z D cA M)) (va_Qi K (xWd z D cA) (xA z)) 0 0 (xA z) := by
  refine x_met (by decide +kernel) (Nat.le_of_ble_eq_true rfl) (L0 := [(0, .ref a0), (1, .ref a1), (2, .ref a2), (3, .int x3), (4, .int x4), (5, .int x5)]) rfl ?_
  intro p e s m args below meth c E hr hlk hnm
  have E : xE RX8 cX8_pushAway 9 D cA p s m args c := E
  replace h := h.2
  refine x_iload E dX8_pushAway_0 4 rfl ?_
  refine x_istore (L' := [(6, .int x4), (0, .ref a0), (1, .ref a1), (2, .ref a2), (3, .int x3), (4, .int x4), (5, .int x5)]) E dX8_pushAway_2 (by decide) rfl ?_
  refine x_iconst (v := (J 0)) E dX8_pushAway_4 (by decide) ?_
  refine x_istore (L' := [(7, .int (J 0)), (6, .int x4), (0, .ref a0), (1, .ref a1), (2, .ref a2), (3, .int x3), (4, .int x4), (5, .int x5)]) E dX8_pushAway_5 (by decide) rfl ?_
  refine x_sub (L' := [(0, .ref a0), (1, .ref a1), (2, .ref a2), (3, .int x3), (5, .int x5), (6, .int x4), (7, .int (J 0))]) [2, 3, 4, 5, 7, 1, 0] rfl ?_
  refine lp_sound (T := fun sv => xG p l e ({ frames := 3, cells := 0, slots := 0, locals := 74 } : Room) s m args below meth c (MQ below (va_Qi K (xWd z D cA) (xA z)) args s 0 0 (xA z)) 9 z D cA sv.1 (0) (0) 7 [(0, .ref a0), (1, .ref a1), (2, .ref a2), (3, .int x3), (5, .int x5), (6, .int sv.2.1), (7, .int sv.2.2)] []) ?_ (M, x4, (J 0)) h
  clear h
  intro kc7 hk7 sv h
  obtain ⟨M, x6, x7⟩ := sv
  replace h : CX8_pushAway_7 K a0 a1 a2 x3 x5 kc7 M x6 x7 := h
  try dsimp only
  refine x_iload E dX8_pushAway_7 6 rfl ?_
  refine x_bipush (v := (J 8)) E dX8_pushAway_9 (by decide) ?_
  refine x_icmp_ge (tgt := 59) E dX8_pushAway_11 (by decide) (fun c1 => ?_) (fun c1 => ?_)
  · replace h := xbr_t h c1
    clear c1
    refine x_iconst (v := (J 1)) E dX8_pushAway_59 (by decide) ?_
    exact x_zret E hr hlk dX8_pushAway_60 h.1 h.2
  · replace h := xbr_f h c1
    clear c1
    refine x_iload_n E dX8_pushAway_14 rfl 3 rfl ?_
    refine x_iload E dX8_pushAway_15 6 rfl ?_
    refine x_iload E dX8_pushAway_17 4 rfl ?_
    refine x_imul E dX8_pushAway_19 ?_
    refine x_iadd E dX8_pushAway_20 ?_
    obtain ⟨y2, ey2, h⟩ := h
    refine x_top (v := .int y2) (congrArg _ ey2) ?_
    clear ey2
    refine x_istore (L' := [(8, .int y2), (0, .ref a0), (1, .ref a1), (2, .ref a2), (3, .int x3), (5, .int x5), (6, .int x6), (7, .int x7)]) E dX8_pushAway_21 (by decide) rfl ?_
    refine x_iload E dX8_pushAway_23 0 rfl ?_
    refine x_callSNi (As := [.int y2]) E mlX8_64 stX10_isShelf (kX10_isShelf l z D cA y2 M _ h) rfl ⟨rfl, rfl⟩ ⟨Nat.le_of_ble_eq_true rfl, Nat.le_of_ble_eq_true rfl⟩ ⟨(Nat.le_of_ble_eq_true rfl), (Nat.le_of_ble_eq_true rfl)⟩ (Nat.le_of_ble_eq_true rfl) rfl dX8_pushAway_25 (x_pure (fun r3 h => ?_))
    refine x_if_ne (tgt := 33) E dX8_pushAway_28 (by decide) (fun c5 => ?_) (fun c5 => ?_)
    · replace h := xbr_f h c5
      clear c5
      refine x_aload_n E dX8_pushAway_33 rfl 1 rfl ?_
      refine x_aload_n E dX8_pushAway_34 rfl 2 rfl ?_
      refine x_aload_n E dX8_pushAway_35 rfl 3 rfl ?_
      refine x_iload E dX8_pushAway_36 0 rfl ?_
      refine x_iload E dX8_pushAway_38 6 rfl ?_
      refine x_iload E dX8_pushAway_40 5 rfl ?_
      refine x_callVi (T := TX8) (N := 1) (t := 9) (As := [.ref a1, .ref a2, .int y2, .int x6, .int x5]) E mlX8_68 inX8_relieve seX8_relieve rfl ⟨by decide, by decide⟩ (tX8_relieve h) (kX8_relieve l z D cA a0 a1 a2 y2 x6 x5 M _ h) rfl ⟨rfl, rfl⟩ ⟨Nat.le_of_ble_eq_true rfl, Nat.le_of_ble_eq_true rfl⟩ ⟨(Nat.le_of_ble_eq_true rfl), (Nat.le_of_ble_eq_true rfl)⟩ (Nat.le_of_ble_eq_true rfl) rfl dX8_pushAway_42 (fun r6 M7 h => ?_)
      refine x_if_ne (tgt := 50) E dX8_pushAway_45 (by decide) (fun c8 => ?_) (fun c8 => ?_)
      · replace h := xbr_f h c8
        clear c8
        refine x_iconst (v := (J 0)) E dX8_pushAway_50 (by decide) ?_
        refine x_istore (L' := [(6, .int (J 0)), (8, .int y2), (0, .ref a0), (1, .ref a1), (2, .ref a2), (3, .int x3), (5, .int x5), (7, .int x7)]) E dX8_pushAway_51 (by decide) rfl ?_
        refine x_iinc (v := (x7 + (J 1))) (L' := [(7, .int (x7 + (J 1))), (6, .int (J 0)), (8, .int y2), (0, .ref a0), (1, .ref a1), (2, .ref a2), (3, .int x3), (5, .int x5)]) E dX8_pushAway_53 7 rfl rfl (by decide) rfl ?_
        refine x_goto (tgt := 7) E dX8_pushAway_56 (by decide) ?_
        refine x_sub (L' := [(0, .ref a0), (1, .ref a1), (2, .ref a2), (3, .int x3), (5, .int x5), (6, .int (J 0)), (7, .int (x7 + (J 1)))]) [3, 4, 5, 6, 7, 1, 0] rfl ?_
        exact hk7 (M7, (J 0), (x7 + (J 1))) h
      · replace h := xbr_t h c8
        clear c8
        refine x_iconst (v := (J 0)) E dX8_pushAway_48 (by decide) ?_
        exact x_zret E hr hlk dX8_pushAway_49 h.1 h.2
    · replace h := xbr_t h c5
      clear c5
      refine x_iconst (v := (J 1)) E dX8_pushAway_31 (by decide) ?_
      exact x_zret E hr hlk dX8_pushAway_32 h.1 h.2
theorem dX8_putBy_0 : decode cX8_putBy 0 = .ok (.aload_n 1, 1) := by decide +kernel
theorem dX8_putBy_1 : decode cX8_putBy 1 = .ok (.aload_n 2, 1) := by decide +kernel
theorem dX8_putBy_2 : decode cX8_putBy 2 = .ok (.iload_n 3, 1) := by decide +kernel
theorem dX8_putBy_3 : decode cX8_putBy 3 = .ok (.iload 4, 2) := by decide +kernel
theorem dX8_putBy_5 : decode cX8_putBy 5 = .ok (.invokevirtual 49, 3) := by decide +kernel
theorem dX8_putBy_8 : decode cX8_putBy 8 = .ok (.istore 5, 2) := by decide +kernel
theorem dX8_putBy_10 : decode cX8_putBy 10 = .ok (.aload_n 1, 1) := by decide +kernel
theorem dX8_putBy_11 : decode cX8_putBy 11 = .ok (.iload 5, 2) := by decide +kernel
theorem dX8_putBy_13 : decode cX8_putBy 13 = .ok (.invokevirtual 53, 3) := by decide +kernel
theorem dX8_putBy_16 : decode cX8_putBy 16 = .ok (.istore 6, 2) := by decide +kernel
theorem dX8_putBy_18 : decode cX8_putBy 18 = .ok (.aload_n 1, 1) := by decide +kernel
theorem dX8_putBy_19 : decode cX8_putBy 19 = .ok (.iload 5, 2) := by decide +kernel
theorem dX8_putBy_21 : decode cX8_putBy 21 = .ok (.iload_n 3, 1) := by decide +kernel
theorem dX8_putBy_22 : decode cX8_putBy 22 = .ok (.iload 6, 2) := by decide +kernel
theorem dX8_putBy_24 : decode cX8_putBy 24 = .ok (.invokevirtual 56, 3) := by decide +kernel
theorem dX8_putBy_27 : decode cX8_putBy 27 = .ok (.aload_n 0, 1) := by decide +kernel
theorem dX8_putBy_28 : decode cX8_putBy 28 = .ok (.aload_n 1, 1) := by decide +kernel
theorem dX8_putBy_29 : decode cX8_putBy 29 = .ok (.aload_n 2, 1) := by decide +kernel
theorem dX8_putBy_30 : decode cX8_putBy 30 = .ok (.iload 6, 2) := by decide +kernel
theorem dX8_putBy_32 : decode cX8_putBy 32 = .ok (.iconst 0, 1) := by decide +kernel
theorem dX8_putBy_33 : decode cX8_putBy 33 = .ok (.iconst 1, 1) := by decide +kernel
theorem dX8_putBy_34 : decode cX8_putBy 34 = .ok (.invokevirtual 60, 3) := by decide +kernel
theorem dX8_putBy_37 : decode cX8_putBy 37 = .ok (.ireturn, 1) := by decide +kernel
set_option maxHeartbeats 4000000 in
set_option maxRecDepth 100000 in
theorem kX8_putBy (l : Launch) (z : Nat) (D : va_G) (cA : Nat → ClassId) (a0 : Nat) (a1 : Nat) (a2 : Nat) (x3 : Int32) (x4 : Int32) (M : Mem) (K : Int32 → Mem → Prop) (h : PX8_putBy a0 a1 a2 x3 x4 M K) : Met l yX8_putBy (.code yX8_putBy cX8_putBy 7 (some .boolean) :: gtbl) ({ frames := 4, cells := 0, slots := 0, locals := 102 } : Room) (va_Pc [.ref a0, .ref a1, .ref a2, .int x3, .int x4] (xB z D cA M)) (va_Qi K (xWd z D cA) (xA z)) 0 0 (xA z) := by
  refine x_met (by decide +kernel) (Nat.le_of_ble_eq_true rfl) (L0 := [(0, .ref a0), (1, .ref a1), (2, .ref a2), (3, .int x3), (4, .int x4)]) rfl ?_
  intro p e s m args below meth c E hr hlk hnm
  have E : xE RX8 cX8_putBy 7 D cA p s m args c := E
  replace h := h.2
  refine x_aload_n E dX8_putBy_0 rfl 1 rfl ?_
  refine x_aload_n E dX8_putBy_1 rfl 2 rfl ?_
  refine x_iload_n E dX8_putBy_2 rfl 3 rfl ?_
  refine x_iload E dX8_putBy_3 4 rfl ?_
  refine x_callVi (T := TX6) (N := 3) (t := 7) (As := [.ref a2, .int x3, .int x4]) E mlX8_49 inX6_spotFor seX6_spotFor rfl ⟨by decide, by decide⟩ (tX6_spotFor h) (kX6_spotFor l z D cA a1 a2 x3 x4 M _ h) rfl ⟨rfl, rfl⟩ ⟨Nat.le_of_ble_eq_true rfl, Nat.le_of_ble_eq_true rfl⟩ ⟨(Nat.le_of_ble_eq_true rfl), (Nat.le_of_ble_eq_true rfl)⟩ (Nat.le_of_ble_eq_true rfl) rfl dX8_putBy_5 (x_pure (fun r1 h => ?_))
  refine x_istore (L' := [(5, .int r1), (0, .ref a0), (1, .ref a1), (2, .ref a2), (3, .int x3), (4, .int x4)]) E dX8_putBy_8 (by decide) rfl ?_
  refine x_aload_n E dX8_putBy_10 rfl 2 rfl ?_
  refine x_iload E dX8_putBy_11 0 rfl ?_
  refine x_callVi (T := TX6) (N := 3) (t := 7) (As := [.int r1]) E mlX8_53 inX6_shelfAtSpot seX6_shelfAtSpot rfl ⟨by decide, by decide⟩ (tX6_shelfAtSpot h) (kX6_shelfAtSpot l z D cA a1 r1 M _ h) rfl ⟨rfl, rfl⟩ ⟨Nat.le_of_ble_eq_true rfl, Nat.le_of_ble_eq_true rfl⟩ ⟨(Nat.le_of_ble_eq_true rfl), (Nat.le_of_ble_eq_true rfl)⟩ (Nat.le_of_ble_eq_true rfl) rfl dX8_putBy_13 (x_pure (fun r3 h => ?_))
  refine x_istore (L' := [(6, .int r3), (5, .int r1), (0, .ref a0), (1, .ref a1), (2, .ref a2), (3, .int x3), (4, .int x4)]) E dX8_putBy_16 (by decide) rfl ?_
  refine x_aload_n E dX8_putBy_18 rfl 3 rfl ?_
  refine x_iload E dX8_putBy_19 1 rfl ?_
  refine x_iload_n E dX8_putBy_21 rfl 5 rfl ?_
  refine x_iload E dX8_putBy_22 0 rfl ?_
  refine x_callVv (T := TX6) (N := 3) (t := 7) (As := [.int r1, .int x3, .int r3]) E mlX8_56 inX6_insert seX6_insert rfl ⟨by decide, by decide⟩ (tX6_insert h) (kX6_insert l z D cA a1 r1 x3 r3 M _ h) rfl ⟨rfl, rfl⟩ ⟨Nat.le_of_ble_eq_true rfl, Nat.le_of_ble_eq_true rfl⟩ ⟨(Nat.le_of_ble_eq_true rfl), (Nat.le_of_ble_eq_true rfl)⟩ (Nat.le_of_ble_eq_true rfl) rfl dX8_putBy_24 (fun M6 h => ?_)
  refine x_aload_n E dX8_putBy_27 rfl 2 rfl ?_
  refine x_aload_n E dX8_putBy_28 rfl 3 rfl ?_
  refine x_aload_n E dX8_putBy_29 rfl 4 rfl ?_
  refine x_iload E dX8_putBy_30 0 rfl ?_
  refine x_iconst (v := (J 0)) E dX8_putBy_32 (by decide) ?_
  refine x_iconst (v := (J 1)) E dX8_putBy_33 (by decide) ?_
  refine x_callVi (T := TX8) (N := 1) (t := 9) (As := [.ref a1, .ref a2, .int r3, .int (J 0), .int (J 1)]) E mlX8_60 inX8_pushAway seX8_pushAway rfl ⟨by decide, by decide⟩ (tX8_pushAway h) (kX8_pushAway l z D cA a0 a1 a2 r3 (J 0) (J 1) M6 _ h) rfl ⟨rfl, rfl⟩ ⟨Nat.le_of_ble_eq_true rfl, Nat.le_of_ble_eq_true rfl⟩ ⟨(Nat.le_of_ble_eq_true rfl), (Nat.le_of_ble_eq_true rfl)⟩ (Nat.le_of_ble_eq_true rfl) rfl dX8_putBy_34 (fun r7 M8 h => ?_)
  exact x_zret E hr hlk dX8_putBy_37 h.1 h.2
theorem dX8_firstThatTakes_0 : decode cX8_firstThatTakes 0 = .ok (.iload 4, 2) := by decide +kernel
theorem dX8_firstThatTakes_2 : decode cX8_firstThatTakes 2 = .ok (.istore 6, 2) := by decide +kernel
theorem dX8_firstThatTakes_4 : decode cX8_firstThatTakes 4 = .ok (.iload 6, 2) := by decide +kernel
theorem dX8_firstThatTakes_6 : decode cX8_firstThatTakes 6 = .ok (.bipush 8, 2) := by decide +kernel
theorem dX8_firstThatTakes_8 : decode cX8_firstThatTakes 8 = .ok (.if_icmp .ge 51, 3) := by decide +kernel
theorem dX8_firstThatTakes_11 : decode cX8_firstThatTakes 11 = .ok (.aload_n 0, 1) := by decide +kernel
theorem dX8_firstThatTakes_12 : decode cX8_firstThatTakes 12 = .ok (.aload_n 1, 1) := by decide +kernel
theorem dX8_firstThatTakes_13 : decode cX8_firstThatTakes 13 = .ok (.aload_n 2, 1) := by decide +kernel
theorem dX8_firstThatTakes_14 : decode cX8_firstThatTakes 14 = .ok (.iload 6, 2) := by decide +kernel
theorem dX8_firstThatTakes_16 : decode cX8_firstThatTakes 16 = .ok (.invokevirtual 45, 3) := by decide +kernel
theorem dX8_firstThatTakes_19 : decode cX8_firstThatTakes 19 = .ok (.aload_n 2, 1) := by decide +kernel
theorem dX8_firstThatTakes_20 : decode cX8_firstThatTakes 20 = .ok (.iload_n 3, 1) := by decide +kernel
theorem dX8_firstThatTakes_21 : decode cX8_firstThatTakes 21 = .ok (.invokevirtual 35, 3) := by decide +kernel
theorem dX8_firstThatTakes_24 : decode cX8_firstThatTakes 24 = .ok (.getfield 39, 3) := by decide +kernel
theorem dX8_firstThatTakes_27 : decode cX8_firstThatTakes 27 = .ok (.isub, 1) := by decide +kernel
theorem dX8_firstThatTakes_28 : decode cX8_firstThatTakes 28 = .ok (.istore 7, 2) := by decide +kernel
theorem dX8_firstThatTakes_30 : decode cX8_firstThatTakes 30 = .ok (.iload 7, 2) := by decide +kernel
theorem dX8_firstThatTakes_32 : decode cX8_firstThatTakes 32 = .ok (.aload_n 1, 1) := by decide +kernel
theorem dX8_firstThatTakes_33 : decode cX8_firstThatTakes 33 = .ok (.iload 6, 2) := by decide +kernel
theorem dX8_firstThatTakes_35 : decode cX8_firstThatTakes 35 = .ok (.invokevirtual 71, 3) := by decide +kernel
theorem dX8_firstThatTakes_38 : decode cX8_firstThatTakes 38 = .ok (.ifCond .ne 7, 3) := by decide +kernel
theorem dX8_firstThatTakes_41 : decode cX8_firstThatTakes 41 = .ok (.iconst 0, 1) := by decide +kernel
theorem dX8_firstThatTakes_42 : decode cX8_firstThatTakes 42 = .ok (.goto 5, 3) := by decide +kernel
theorem dX8_firstThatTakes_45 : decode cX8_firstThatTakes 45 = .ok (.iload 5, 2) := by decide +kernel
theorem dX8_firstThatTakes_47 : decode cX8_firstThatTakes 47 = .ok (.if_icmp .lt 6, 3) := by decide +kernel
theorem dX8_firstThatTakes_50 : decode cX8_firstThatTakes 50 = .ok (.iload 6, 2) := by decide +kernel
theorem dX8_firstThatTakes_52 : decode cX8_firstThatTakes 52 = .ok (.ireturn, 1) := by decide +kernel
theorem dX8_firstThatTakes_53 : decode cX8_firstThatTakes 53 = .ok (.iinc 6 1, 3) := by decide +kernel
theorem dX8_firstThatTakes_56 : decode cX8_firstThatTakes 56 = .ok (.goto (-52), 3) := by decide +kernel
theorem dX8_firstThatTakes_59 : decode cX8_firstThatTakes 59 = .ok (.bipush 8, 2) := by decide +kernel
theorem dX8_firstThatTakes_61 : decode cX8_firstThatTakes 61 = .ok (.ireturn, 1) := by decide +kernel
set_option maxHeartbeats 4000000 in
set_option maxRecDepth 100000 in
theorem kX8_firstThatTakes (l : Launch) (z : Nat) (D : va_G) (cA : Nat → ClassId) (a0 : Nat) (a1 : Nat) (a2 : Nat) (x3 : Int32) (x4 : Int32) (x5 : Int32) (M : Mem) (K : Int32 → Prop) (h : PX8_firstThatTakes a0 a1 a2 x3 x4 x5 M K) : Met l yX8_firstThatTakes (.code yX8_firstThatTakes cX8_firstThatTakes 8 (some .int) :: gtbl) ({ frames := 2, cells := 0, slots := 0, locals := 47 } : Room) (va_Pc [.ref a0, .ref a1, .ref a2, .int x3, .int x4, .int x5] (xB z D cA M)) (va_Qi (fun r M1 => M1 = M ∧ K r) (xWd z D cA) (xA z)) 0 0 (xA z) := by
  refine x_met (by decide +kernel) (Nat.le_of_ble_eq_true rfl) (L0 := [(0, .ref a0), (1, .ref a1), (2, .ref a2), (3, .int x3), (4, .int x4), (5, .int x5)]) rfl ?_
  intro p e s m args below meth c E hr hlk hnm
  have E : xE RX8 cX8_firstThatTakes 8 D cA p s m args c := E
  replace h := h.2
  refine x_iload E dX8_firstThatTakes_0 4 rfl ?_
  refine x_istore (L' := [(6, .int x4), (0, .ref a0), (1, .ref a1), (2, .ref a2), (3, .int x3), (4, .int x4), (5, .int x5)]) E dX8_firstThatTakes_2 (by decide) rfl ?_
  refine x_sub (L' := [(0, .ref a0), (1, .ref a1), (2, .ref a2), (3, .int x3), (5, .int x5), (6, .int x4)]) [1, 2, 3, 4, 6, 0] rfl ?_
  refine lp_sound (T := fun sv => xG p l e ({ frames := 2, cells := 0, slots := 0, locals := 47 } : Room) s m args below meth c (MQ below (va_Qi (fun r M1 => M1 = M ∧ K r) (xWd z D cA) (xA z)) args s 0 0 (xA z)) 8 z D cA M (0) (0) 4 [(0, .ref a0), (1, .ref a1), (2, .ref a2), (3, .int x3), (5, .int x5), (6, .int sv)] []) ?_ x4 h
  clear h
  intro kc4 hk4 sv h
  obtain ⟨x6, esv⟩ : ∃ y, y = sv := ⟨_, rfl⟩
  subst esv
  replace h : CX8_firstThatTakes_4 K M a0 a1 a2 x3 x5 kc4 x6 := h
  try dsimp only
  have hJ47 : ∀ (j6 : Int32) (s0 : Int32) (s1 : Int32), JX8_firstThatTakes_47 K kc4 M a0 a1 a2 x3 x5 j6 s0 s1 → xG p l e ({ frames := 2, cells := 0, slots := 0, locals := 47 } : Room) s m args below meth c (MQ below (va_Qi (fun r M1 => M1 = M ∧ K r) (xWd z D cA) (xA z)) args s 0 0 (xA z)) 8 z D cA M (0) (0) 47 [(0, .ref a0), (1, .ref a1), (2, .ref a2), (3, .int x3), (5, .int x5), (6, .int j6)] [.int s0, .int s1] := by
    intro j6 s0 s1 h
    refine x_icmp_lt (tgt := 53) E dX8_firstThatTakes_47 (by decide) (fun c11 => ?_) (fun c11 => ?_)
    · replace h := xbr_t h c11
      clear c11
      refine x_iinc (v := (j6 + (J 1))) (L' := [(6, .int (j6 + (J 1))), (0, .ref a0), (1, .ref a1), (2, .ref a2), (3, .int x3), (5, .int x5)]) E dX8_firstThatTakes_53 5 rfl rfl (by decide) rfl ?_
      refine x_goto (tgt := 4) E dX8_firstThatTakes_56 (by decide) ?_
      refine x_sub (L' := [(0, .ref a0), (1, .ref a1), (2, .ref a2), (3, .int x3), (5, .int x5), (6, .int (j6 + (J 1)))]) [1, 2, 3, 4, 5, 0] rfl ?_
      exact hk4 (j6 + (J 1)) h
    · replace h := xbr_f h c11
      clear c11
      refine x_iload E dX8_firstThatTakes_50 5 rfl ?_
      exact x_iret E hr hlk dX8_firstThatTakes_52 ⟨rfl, h⟩
  refine x_iload E dX8_firstThatTakes_4 5 rfl ?_
  refine x_bipush (v := (J 8)) E dX8_firstThatTakes_6 (by decide) ?_
  refine x_icmp_ge (tgt := 59) E dX8_firstThatTakes_8 (by decide) (fun c1 => ?_) (fun c1 => ?_)
  · replace h := xbr_t h c1
    clear c1
    refine x_bipush (v := (J 8)) E dX8_firstThatTakes_59 (by decide) ?_
    exact x_iret E hr hlk dX8_firstThatTakes_61 ⟨rfl, h⟩
  · replace h := xbr_f h c1
    clear c1
    refine x_aload_n E dX8_firstThatTakes_11 rfl 0 rfl ?_
    refine x_aload_n E dX8_firstThatTakes_12 rfl 1 rfl ?_
    refine x_aload_n E dX8_firstThatTakes_13 rfl 2 rfl ?_
    refine x_iload E dX8_firstThatTakes_14 5 rfl ?_
    refine x_callVi (T := TX8) (N := 1) (t := 9) (As := [.ref a1, .ref a2, .int x6]) E mlX8_45 inX8_left seX8_left rfl ⟨by decide, by decide⟩ (tX8_left h) (kX8_left l z D cA a0 a1 a2 x6 M _ h) rfl ⟨rfl, rfl⟩ ⟨Nat.le_of_ble_eq_true rfl, Nat.le_of_ble_eq_true rfl⟩ ⟨(Nat.le_of_ble_eq_true rfl), (Nat.le_of_ble_eq_true rfl)⟩ (Nat.le_of_ble_eq_true rfl) rfl dX8_firstThatTakes_16 (x_pure (fun r2 h => ?_))
    refine x_aload_n E dX8_firstThatTakes_19 rfl 2 rfl ?_
    refine x_iload_n E dX8_firstThatTakes_20 rfl 3 rfl ?_
    refine x_callVr (T := TX2) (N := 4) (t := 3) (As := [.int x3]) E mlX8_35 inX2_of seX2_of rfl ⟨by decide, by decide⟩ (tX2_of h) (kX2_of l z D cA a2 x3 M _ h) rfl ⟨rfl, rfl⟩ ⟨Nat.le_of_ble_eq_true rfl, Nat.le_of_ble_eq_true rfl⟩ ⟨(Nat.le_of_ble_eq_true rfl), (Nat.le_of_ble_eq_true rfl)⟩ (Nat.le_of_ble_eq_true rfl) rfl dX8_firstThatTakes_21 (fun q4 h => ?_)
    obtain ⟨hT, v6, hv, h⟩ := h
    refine x_get E flX8_39 dX8_firstThatTakes_24 hT hv ?_
    clear hT hv
    refine x_isub E dX8_firstThatTakes_27 ?_
    obtain ⟨y7, ey7, h⟩ := h
    refine x_top (v := .int y7) (congrArg _ ey7) ?_
    clear ey7
    refine x_istore (L' := [(7, .int y7), (0, .ref a0), (1, .ref a1), (2, .ref a2), (3, .int x3), (5, .int x5), (6, .int x6)]) E dX8_firstThatTakes_28 (by decide) rfl ?_
    refine x_iload E dX8_firstThatTakes_30 0 rfl ?_
    refine x_aload_n E dX8_firstThatTakes_32 rfl 2 rfl ?_
    refine x_iload E dX8_firstThatTakes_33 6 rfl ?_
    refine x_callVi (T := TX6) (N := 3) (t := 7) (As := [.int x6]) E mlX8_71 inX6_amount seX6_amount rfl ⟨by decide, by decide⟩ (tX6_amount h) (kX6_amount l z D cA a1 x6 M _ h) rfl ⟨rfl, rfl⟩ ⟨Nat.le_of_ble_eq_true rfl, Nat.le_of_ble_eq_true rfl⟩ ⟨(Nat.le_of_ble_eq_true rfl), (Nat.le_of_ble_eq_true rfl)⟩ (Nat.le_of_ble_eq_true rfl) rfl dX8_firstThatTakes_35 (x_pure (fun r8 h => ?_))
    refine x_if_ne (tgt := 45) E dX8_firstThatTakes_38 (by decide) (fun c10 => ?_) (fun c10 => ?_)
    · replace h := xbr_f h c10
      clear c10
      refine x_iload E dX8_firstThatTakes_45 5 rfl ?_
      refine x_sub (L' := [(0, .ref a0), (1, .ref a1), (2, .ref a2), (3, .int x3), (5, .int x5), (6, .int x6)]) [1, 2, 3, 4, 5, 6] rfl ?_
      exact hJ47 x6 x5 y7 h
    · replace h := xbr_t h c10
      clear c10
      refine x_iconst (v := (J 0)) E dX8_firstThatTakes_41 (by decide) ?_
      refine x_goto (tgt := 47) E dX8_firstThatTakes_42 (by decide) ?_
      refine x_sub (L' := [(0, .ref a0), (1, .ref a1), (2, .ref a2), (3, .int x3), (5, .int x5), (6, .int x6)]) [1, 2, 3, 4, 5, 6] rfl ?_
      exact hJ47 x6 (J 0) y7 h
theorem dX8_layAnew_0 : decode cX8_layAnew 0 = .ok (.aload_n 1, 1) := by decide +kernel
theorem dX8_layAnew_1 : decode cX8_layAnew 1 = .ok (.invokevirtual 82, 3) := by decide +kernel
theorem dX8_layAnew_4 : decode cX8_layAnew 4 = .ok (.iconst 0, 1) := by decide +kernel
theorem dX8_layAnew_5 : decode cX8_layAnew 5 = .ok (.istore 5, 2) := by decide +kernel
theorem dX8_layAnew_7 : decode cX8_layAnew 7 = .ok (.iload 5, 2) := by decide +kernel
theorem dX8_layAnew_9 : decode cX8_layAnew 9 = .ok (.aload_n 3, 1) := by decide +kernel
theorem dX8_layAnew_10 : decode cX8_layAnew 10 = .ok (.invokevirtual 23, 3) := by decide +kernel
theorem dX8_layAnew_13 : decode cX8_layAnew 13 = .ok (.if_icmp .ge 34, 3) := by decide +kernel
theorem dX8_layAnew_16 : decode cX8_layAnew 16 = .ok (.aload_n 2, 1) := by decide +kernel
theorem dX8_layAnew_17 : decode cX8_layAnew 17 = .ok (.iload 5, 2) := by decide +kernel
theorem dX8_layAnew_19 : decode cX8_layAnew 19 = .ok (.invokevirtual 85, 3) := by decide +kernel
theorem dX8_layAnew_22 : decode cX8_layAnew 22 = .ok (.ifCond .eq 19, 3) := by decide +kernel
theorem dX8_layAnew_25 : decode cX8_layAnew 25 = .ok (.aload_n 1, 1) := by decide +kernel
theorem dX8_layAnew_26 : decode cX8_layAnew 26 = .ok (.aload_n 1, 1) := by decide +kernel
theorem dX8_layAnew_27 : decode cX8_layAnew 27 = .ok (.aload_n 3, 1) := by decide +kernel
theorem dX8_layAnew_28 : decode cX8_layAnew 28 = .ok (.iload 5, 2) := by decide +kernel
theorem dX8_layAnew_30 : decode cX8_layAnew 30 = .ok (.iconst 0, 1) := by decide +kernel
theorem dX8_layAnew_31 : decode cX8_layAnew 31 = .ok (.invokevirtual 49, 3) := by decide +kernel
theorem dX8_layAnew_34 : decode cX8_layAnew 34 = .ok (.iload 5, 2) := by decide +kernel
theorem dX8_layAnew_36 : decode cX8_layAnew 36 = .ok (.bipush 8, 2) := by decide +kernel
theorem dX8_layAnew_38 : decode cX8_layAnew 38 = .ok (.invokevirtual 56, 3) := by decide +kernel
theorem dX8_layAnew_41 : decode cX8_layAnew 41 = .ok (.iinc 5 1, 3) := by decide +kernel
theorem dX8_layAnew_44 : decode cX8_layAnew 44 = .ok (.goto (-37), 3) := by decide +kernel
theorem dX8_layAnew_47 : decode cX8_layAnew 47 = .ok (.iconst 0, 1) := by decide +kernel
theorem dX8_layAnew_48 : decode cX8_layAnew 48 = .ok (.istore 5, 2) := by decide +kernel
theorem dX8_layAnew_50 : decode cX8_layAnew 50 = .ok (.iconst 0, 1) := by decide +kernel
theorem dX8_layAnew_51 : decode cX8_layAnew 51 = .ok (.istore 6, 2) := by decide +kernel
theorem dX8_layAnew_53 : decode cX8_layAnew 53 = .ok (.iload 6, 2) := by decide +kernel
theorem dX8_layAnew_55 : decode cX8_layAnew 55 = .ok (.aload_n 1, 1) := by decide +kernel
theorem dX8_layAnew_56 : decode cX8_layAnew 56 = .ok (.invokevirtual 88, 3) := by decide +kernel
theorem dX8_layAnew_59 : decode cX8_layAnew 59 = .ok (.if_icmp .ge 49, 3) := by decide +kernel
theorem dX8_layAnew_62 : decode cX8_layAnew 62 = .ok (.aload_n 1, 1) := by decide +kernel
theorem dX8_layAnew_63 : decode cX8_layAnew 63 = .ok (.iload 6, 2) := by decide +kernel
theorem dX8_layAnew_65 : decode cX8_layAnew 65 = .ok (.invokevirtual 89, 3) := by decide +kernel
theorem dX8_layAnew_68 : decode cX8_layAnew 68 = .ok (.istore 7, 2) := by decide +kernel
theorem dX8_layAnew_70 : decode cX8_layAnew 70 = .ok (.aload_n 0, 1) := by decide +kernel
theorem dX8_layAnew_71 : decode cX8_layAnew 71 = .ok (.aload_n 1, 1) := by decide +kernel
theorem dX8_layAnew_72 : decode cX8_layAnew 72 = .ok (.aload_n 3, 1) := by decide +kernel
theorem dX8_layAnew_73 : decode cX8_layAnew 73 = .ok (.iload 7, 2) := by decide +kernel
theorem dX8_layAnew_75 : decode cX8_layAnew 75 = .ok (.iload 5, 2) := by decide +kernel
theorem dX8_layAnew_77 : decode cX8_layAnew 77 = .ok (.iload 4, 2) := by decide +kernel
theorem dX8_layAnew_79 : decode cX8_layAnew 79 = .ok (.invokevirtual 92, 3) := by decide +kernel
theorem dX8_layAnew_82 : decode cX8_layAnew 82 = .ok (.istore 5, 2) := by decide +kernel
theorem dX8_layAnew_84 : decode cX8_layAnew 84 = .ok (.iload 5, 2) := by decide +kernel
theorem dX8_layAnew_86 : decode cX8_layAnew 86 = .ok (.invokestatic 64, 3) := by decide +kernel
theorem dX8_layAnew_89 : decode cX8_layAnew 89 = .ok (.ifCond .ne 5, 3) := by decide +kernel
theorem dX8_layAnew_92 : decode cX8_layAnew 92 = .ok (.iconst 0, 1) := by decide +kernel
theorem dX8_layAnew_93 : decode cX8_layAnew 93 = .ok (.ireturn, 1) := by decide +kernel
theorem dX8_layAnew_94 : decode cX8_layAnew 94 = .ok (.aload_n 1, 1) := by decide +kernel
theorem dX8_layAnew_95 : decode cX8_layAnew 95 = .ok (.iload 7, 2) := by decide +kernel
theorem dX8_layAnew_97 : decode cX8_layAnew 97 = .ok (.iload 5, 2) := by decide +kernel
theorem dX8_layAnew_99 : decode cX8_layAnew 99 = .ok (.invokevirtual 78, 3) := by decide +kernel
theorem dX8_layAnew_102 : decode cX8_layAnew 102 = .ok (.iinc 6 1, 3) := by decide +kernel
theorem dX8_layAnew_105 : decode cX8_layAnew 105 = .ok (.goto (-52), 3) := by decide +kernel
theorem dX8_layAnew_108 : decode cX8_layAnew 108 = .ok (.iconst 1, 1) := by decide +kernel
theorem dX8_layAnew_109 : decode cX8_layAnew 109 = .ok (.ireturn, 1) := by decide +kernel
set_option maxHeartbeats 4000000 in
set_option maxRecDepth 100000 in
theorem kX8_layAnew (l : Launch) (z : Nat) (D : va_G) (cA : Nat → ClassId) (a0 : Nat) (a1 : Nat) (a2 : Nat) (a3 : Nat) (x4 : Int32) (M : Mem) (K : Int32 → Mem → Prop) (h : PX8_layAnew a0 a1 a2 a3 x4 M K) : Met l yX8_layAnew (.code yX8_layAnew cX8_layAnew 8 (some .boolean) :: gtbl) ({ frames := 4, cells := 0, slots := 0, locals := 95 } : Room) (va_Pc [.ref a0, .ref a1, .ref a2, .ref a3, .int x4] (xB z D cA M)) (va_Qi K (xWd z D cA) (xA z)) 0 0 (xA z) := by
  refine x_met (by decide +kernel) (Nat.le_of_ble_eq_true rfl) (L0 := [(0, .ref a0), (1, .ref a1), (2, .ref a2), (3, .ref a3), (4, .int x4)]) rfl ?_
  intro p e s m args below meth c E hr hlk hnm
  have E : xE RX8 cX8_layAnew 8 D cA p s m args c := E
  replace h := h.2
  refine x_aload_n E dX8_layAnew_0 rfl 1 rfl ?_
  refine x_callVv (T := TX6) (N := 3) (t := 7) (As := []) E mlX8_82 inX6_clear seX6_clear rfl ⟨by decide, by decide⟩ (tX6_clear h) (kX6_clear l z D cA a1 M _ h) rfl ⟨rfl, rfl⟩ ⟨Nat.le_of_ble_eq_true rfl, Nat.le_of_ble_eq_true rfl⟩ ⟨(Nat.le_of_ble_eq_true rfl), (Nat.le_of_ble_eq_true rfl)⟩ (Nat.le_of_ble_eq_true rfl) rfl dX8_layAnew_1 (fun M2 h => ?_)
  refine x_iconst (v := (J 0)) E dX8_layAnew_4 (by decide) ?_
  refine x_istore (L' := [(5, .int (J 0)), (0, .ref a0), (1, .ref a1), (2, .ref a2), (3, .ref a3), (4, .int x4)]) E dX8_layAnew_5 (by decide) rfl ?_
  refine x_sub (L' := [(0, .ref a0), (1, .ref a1), (2, .ref a2), (3, .ref a3), (4, .int x4), (5, .int (J 0))]) [1, 2, 3, 4, 5, 0] rfl ?_
  refine lp_sound (T := fun sv => xG p l e ({ frames := 4, cells := 0, slots := 0, locals := 95 } : Room) s m args below meth c (MQ below (va_Qi K (xWd z D cA) (xA z)) args s 0 0 (xA z)) 8 z D cA sv.1 (0) (0) 7 [(0, .ref a0), (1, .ref a1), (2, .ref a2), (3, .ref a3), (4, .int x4), (5, .int sv.2)] []) ?_ (M2, (J 0)) h
  clear h
  intro kc7 hk7 sv h
  obtain ⟨M, x5⟩ := sv
  replace h : CX8_layAnew_7 K a0 a1 a2 a3 x4 kc7 M x5 := h
  try dsimp only
  refine x_iload E dX8_layAnew_7 5 rfl ?_
  refine x_aload_n E dX8_layAnew_9 rfl 3 rfl ?_
  refine x_callVi (T := TX2) (N := 4) (t := 3) (As := []) E mlX8_23 inX2_size seX2_size rfl ⟨by decide, by decide⟩ (tX2_size h) (kX2_size l z D cA a3 M _ h) rfl ⟨rfl, rfl⟩ ⟨Nat.le_of_ble_eq_true rfl, Nat.le_of_ble_eq_true rfl⟩ ⟨(Nat.le_of_ble_eq_true rfl), (Nat.le_of_ble_eq_true rfl)⟩ (Nat.le_of_ble_eq_true rfl) rfl dX8_layAnew_10 (x_pure (fun r3 h => ?_))
  refine x_icmp_ge (tgt := 47) E dX8_layAnew_13 (by decide) (fun c5 => ?_) (fun c5 => ?_)
  · replace h := xbr_t h c5
    clear c5
    refine x_iconst (v := (J 0)) E dX8_layAnew_47 (by decide) ?_
    refine x_istore (L' := [(5, .int (J 0)), (0, .ref a0), (1, .ref a1), (2, .ref a2), (3, .ref a3), (4, .int x4)]) E dX8_layAnew_48 (by decide) rfl ?_
    refine x_iconst (v := (J 0)) E dX8_layAnew_50 (by decide) ?_
    refine x_istore (L' := [(6, .int (J 0)), (5, .int (J 0)), (0, .ref a0), (1, .ref a1), (2, .ref a2), (3, .ref a3), (4, .int x4)]) E dX8_layAnew_51 (by decide) rfl ?_
    refine x_sub (L' := [(0, .ref a0), (1, .ref a1), (3, .ref a3), (4, .int x4), (5, .int (J 0)), (6, .int (J 0))]) [2, 3, 5, 6, 1, 0] rfl ?_
    refine lp_sound (T := fun sv => xG p l e ({ frames := 4, cells := 0, slots := 0, locals := 95 } : Room) s m args below meth c (MQ below (va_Qi K (xWd z D cA) (xA z)) args s 0 0 (xA z)) 8 z D cA sv.1 (0) (0) 53 [(0, .ref a0), (1, .ref a1), (3, .ref a3), (4, .int x4), (5, .int sv.2.1), (6, .int sv.2.2)] []) ?_ (M, (J 0), (J 0)) h
    clear h
    intro kc53 hk53 sv h
    obtain ⟨M, x5, x6⟩ := sv
    replace h : CX8_layAnew_53 K a0 a1 a3 x4 kc53 M x5 x6 := h
    try dsimp only
    refine x_iload E dX8_layAnew_53 5 rfl ?_
    refine x_aload_n E dX8_layAnew_55 rfl 1 rfl ?_
    refine x_callVi (T := TX6) (N := 3) (t := 7) (As := []) E mlX8_88 inX6_size seX6_size rfl ⟨by decide, by decide⟩ (tX6_size h) (kX6_size l z D cA a1 M _ h) rfl ⟨rfl, rfl⟩ ⟨Nat.le_of_ble_eq_true rfl, Nat.le_of_ble_eq_true rfl⟩ ⟨(Nat.le_of_ble_eq_true rfl), (Nat.le_of_ble_eq_true rfl)⟩ (Nat.le_of_ble_eq_true rfl) rfl dX8_layAnew_56 (x_pure (fun r6 h => ?_))
    refine x_icmp_ge (tgt := 108) E dX8_layAnew_59 (by decide) (fun c8 => ?_) (fun c8 => ?_)
    · replace h := xbr_t h c8
      clear c8
      refine x_iconst (v := (J 1)) E dX8_layAnew_108 (by decide) ?_
      exact x_zret E hr hlk dX8_layAnew_109 h.1 h.2
    · replace h := xbr_f h c8
      clear c8
      refine x_aload_n E dX8_layAnew_62 rfl 1 rfl ?_
      refine x_iload E dX8_layAnew_63 5 rfl ?_
      refine x_callVi (T := TX6) (N := 3) (t := 7) (As := [.int x6]) E mlX8_89 inX6_bookAt seX6_bookAt rfl ⟨by decide, by decide⟩ (tX6_bookAt h) (kX6_bookAt l z D cA a1 x6 M _ h) rfl ⟨rfl, rfl⟩ ⟨Nat.le_of_ble_eq_true rfl, Nat.le_of_ble_eq_true rfl⟩ ⟨(Nat.le_of_ble_eq_true rfl), (Nat.le_of_ble_eq_true rfl)⟩ (Nat.le_of_ble_eq_true rfl) rfl dX8_layAnew_65 (x_pure (fun r9 h => ?_))
      refine x_istore (L' := [(7, .int r9), (0, .ref a0), (1, .ref a1), (3, .ref a3), (4, .int x4), (5, .int x5), (6, .int x6)]) E dX8_layAnew_68 (by decide) rfl ?_
      refine x_aload_n E dX8_layAnew_70 rfl 1 rfl ?_
      refine x_aload_n E dX8_layAnew_71 rfl 2 rfl ?_
      refine x_aload_n E dX8_layAnew_72 rfl 3 rfl ?_
      refine x_iload E dX8_layAnew_73 0 rfl ?_
      refine x_iload E dX8_layAnew_75 5 rfl ?_
      refine x_iload E dX8_layAnew_77 4 rfl ?_
      refine x_callVi (T := TX8) (N := 1) (t := 9) (As := [.ref a1, .ref a3, .int r9, .int x5, .int x4]) E mlX8_92 inX8_firstThatTakes seX8_firstThatTakes rfl ⟨by decide, by decide⟩ (tX8_firstThatTakes h) (kX8_firstThatTakes l z D cA a0 a1 a3 r9 x5 x4 M _ h) rfl ⟨rfl, rfl⟩ ⟨Nat.le_of_ble_eq_true rfl, Nat.le_of_ble_eq_true rfl⟩ ⟨(Nat.le_of_ble_eq_true rfl), (Nat.le_of_ble_eq_true rfl)⟩ (Nat.le_of_ble_eq_true rfl) rfl dX8_layAnew_79 (x_pure (fun r11 h => ?_))
      refine x_istore (L' := [(5, .int r11), (7, .int r9), (0, .ref a0), (1, .ref a1), (3, .ref a3), (4, .int x4), (6, .int x6)]) E dX8_layAnew_82 (by decide) rfl ?_
      refine x_iload E dX8_layAnew_84 0 rfl ?_
      refine x_callSNi (As := [.int r11]) E mlX8_64 stX10_isShelf (kX10_isShelf l z D cA r11 M _ h) rfl ⟨rfl, rfl⟩ ⟨Nat.le_of_ble_eq_true rfl, Nat.le_of_ble_eq_true rfl⟩ ⟨(Nat.le_of_ble_eq_true rfl), (Nat.le_of_ble_eq_true rfl)⟩ (Nat.le_of_ble_eq_true rfl) rfl dX8_layAnew_86 (x_pure (fun r13 h => ?_))
      refine x_if_ne (tgt := 94) E dX8_layAnew_89 (by decide) (fun c15 => ?_) (fun c15 => ?_)
      · replace h := xbr_f h c15
        clear c15
        refine x_aload_n E dX8_layAnew_94 rfl 3 rfl ?_
        refine x_iload E dX8_layAnew_95 1 rfl ?_
        refine x_iload E dX8_layAnew_97 0 rfl ?_
        refine x_callVv (T := TX6) (N := 3) (t := 7) (As := [.int r9, .int r11]) E mlX8_78 inX6_pass seX6_pass rfl ⟨by decide, by decide⟩ (tX6_pass h) (kX6_pass l z D cA a1 r9 r11 M _ h) rfl ⟨rfl, rfl⟩ ⟨Nat.le_of_ble_eq_true rfl, Nat.le_of_ble_eq_true rfl⟩ ⟨(Nat.le_of_ble_eq_true rfl), (Nat.le_of_ble_eq_true rfl)⟩ (Nat.le_of_ble_eq_true rfl) rfl dX8_layAnew_99 (fun M17 h => ?_)
        refine x_iinc (v := (x6 + (J 1))) (L' := [(6, .int (x6 + (J 1))), (5, .int r11), (7, .int r9), (0, .ref a0), (1, .ref a1), (3, .ref a3), (4, .int x4)]) E dX8_layAnew_102 6 rfl rfl (by decide) rfl ?_
        refine x_goto (tgt := 53) E dX8_layAnew_105 (by decide) ?_
        refine x_sub (L' := [(0, .ref a0), (1, .ref a1), (3, .ref a3), (4, .int x4), (5, .int r11), (6, .int (x6 + (J 1)))]) [3, 4, 5, 6, 1, 0] rfl ?_
        exact hk53 (M17, r11, (x6 + (J 1))) h
      · replace h := xbr_t h c15
        clear c15
        refine x_iconst (v := (J 0)) E dX8_layAnew_92 (by decide) ?_
        exact x_zret E hr hlk dX8_layAnew_93 h.1 h.2
  · replace h := xbr_f h c5
    clear c5
    refine x_aload_n E dX8_layAnew_16 rfl 2 rfl ?_
    refine x_iload E dX8_layAnew_17 5 rfl ?_
    refine x_callVi (T := TX6) (N := 3) (t := 7) (As := [.int x5]) E mlX8_85 inX6_stands seX6_stands rfl ⟨by decide, by decide⟩ (tX6_stands h) (kX6_stands l z D cA a2 x5 M _ h) rfl ⟨rfl, rfl⟩ ⟨Nat.le_of_ble_eq_true rfl, Nat.le_of_ble_eq_true rfl⟩ ⟨(Nat.le_of_ble_eq_true rfl), (Nat.le_of_ble_eq_true rfl)⟩ (Nat.le_of_ble_eq_true rfl) rfl dX8_layAnew_19 (x_pure (fun r18 h => ?_))
    refine x_if_eq (tgt := 41) E dX8_layAnew_22 (by decide) (fun c20 => ?_) (fun c20 => ?_)
    · replace h := xbr_t h c20
      clear c20
      refine x_iinc (v := (x5 + (J 1))) (L' := [(5, .int (x5 + (J 1))), (0, .ref a0), (1, .ref a1), (2, .ref a2), (3, .ref a3), (4, .int x4)]) E dX8_layAnew_41 5 rfl rfl (by decide) rfl ?_
      refine x_goto (tgt := 7) E dX8_layAnew_44 (by decide) ?_
      refine x_sub (L' := [(0, .ref a0), (1, .ref a1), (2, .ref a2), (3, .ref a3), (4, .int x4), (5, .int (x5 + (J 1)))]) [1, 2, 3, 4, 5, 0] rfl ?_
      exact hk7 (M, (x5 + (J 1))) h
    · replace h := xbr_f h c20
      clear c20
      refine x_aload_n E dX8_layAnew_25 rfl 1 rfl ?_
      refine x_aload_n E dX8_layAnew_26 rfl 1 rfl ?_
      refine x_aload_n E dX8_layAnew_27 rfl 3 rfl ?_
      refine x_iload E dX8_layAnew_28 5 rfl ?_
      refine x_iconst (v := (J 0)) E dX8_layAnew_30 (by decide) ?_
      refine x_callVi (T := TX6) (N := 3) (t := 7) (As := [.ref a3, .int x5, .int (J 0)]) E mlX8_49 inX6_spotFor seX6_spotFor rfl ⟨by decide, by decide⟩ (tX6_spotFor h) (kX6_spotFor l z D cA a1 a3 x5 (J 0) M _ h) rfl ⟨rfl, rfl⟩ ⟨Nat.le_of_ble_eq_true rfl, Nat.le_of_ble_eq_true rfl⟩ ⟨(Nat.le_of_ble_eq_true rfl), (Nat.le_of_ble_eq_true rfl)⟩ (Nat.le_of_ble_eq_true rfl) rfl dX8_layAnew_31 (x_pure (fun r21 h => ?_))
      refine x_iload E dX8_layAnew_34 5 rfl ?_
      refine x_bipush (v := (J 8)) E dX8_layAnew_36 (by decide) ?_
      refine x_callVv (T := TX6) (N := 3) (t := 7) (As := [.int r21, .int x5, .int (J 8)]) E mlX8_56 inX6_insert seX6_insert rfl ⟨by decide, by decide⟩ (tX6_insert h) (kX6_insert l z D cA a1 r21 x5 (J 8) M _ h) rfl ⟨rfl, rfl⟩ ⟨Nat.le_of_ble_eq_true rfl, Nat.le_of_ble_eq_true rfl⟩ ⟨(Nat.le_of_ble_eq_true rfl), (Nat.le_of_ble_eq_true rfl)⟩ (Nat.le_of_ble_eq_true rfl) rfl dX8_layAnew_38 (fun M24 h => ?_)
      refine x_iinc (v := (x5 + (J 1))) (L' := [(5, .int (x5 + (J 1))), (0, .ref a0), (1, .ref a1), (2, .ref a2), (3, .ref a3), (4, .int x4)]) E dX8_layAnew_41 5 rfl rfl (by decide) rfl ?_
      refine x_goto (tgt := 7) E dX8_layAnew_44 (by decide) ?_
      refine x_sub (L' := [(0, .ref a0), (1, .ref a1), (2, .ref a2), (3, .ref a3), (4, .int x4), (5, .int (x5 + (J 1)))]) [1, 2, 3, 4, 5, 0] rfl ?_
      exact hk7 (M24, (x5 + (J 1))) h
theorem dX9_init_0 : decode cX9_init 0 = .ok (.aload_n 0, 1) := by decide +kernel
theorem dX9_init_1 : decode cX9_init 1 = .ok (.invokespecial 3, 3) := by decide +kernel
theorem dX9_init_4 : decode cX9_init 4 = .ok (.aload_n 0, 1) := by decide +kernel
theorem dX9_init_5 : decode cX9_init 5 = .ok (.bipush 24, 2) := by decide +kernel
theorem dX9_init_7 : decode cX9_init 7 = .ok (.newarray .int, 2) := by decide +kernel
theorem dX9_init_9 : decode cX9_init 9 = .ok (.putfield 9, 3) := by decide +kernel
theorem dX9_init_12 : decode cX9_init 12 = .ok (.return_, 1) := by decide +kernel
set_option maxHeartbeats 4000000 in
set_option maxRecDepth 100000 in
theorem kX9_init (l : Launch) (z : Nat) (D : va_G) (cA : Nat → ClassId) (a0 : Nat) (M : Mem) (K : Mem → Prop) (h : PX9_init a0 M K) : Met l yX9_init (.code yX9_init cX9_init 1 none :: gtbl) ({ frames := 1, cells := 1, slots := 650, locals := 20 } : Room) (va_Pc [.ref a0] (xB z D cA M)) (va_Qv K (xWd z D cA) (xA z)) 1 650 (xA z) := by
  refine x_met (by decide +kernel) (Nat.le_of_ble_eq_true rfl) (L0 := [(0, .ref a0)]) rfl ?_
  intro p e s m args below meth c E hr hlk hnm
  have E : xE RX9 cX9_init 1 D cA p s m args c := E
  replace h := h.2
  refine x_aload_n E dX9_init_0 rfl 0 rfl ?_
  refine x_objInit E (gw 161 (by decide +kernel) rfl) (gw 21 (by decide +kernel) rfl) (gw 22 (by decide +kernel) rfl) dX9_init_1 (Nat.le_of_ble_eq_true rfl) (Nat.le_of_ble_eq_true rfl) ?_
  refine x_aload_n E dX9_init_4 rfl 0 rfl ?_
  refine x_bipush (v := (J 24)) E dX9_init_5 (by decide) ?_
  obtain ⟨hi, hN, h⟩ := h
  refine x_newa (q := 0) (N := 24) E (ty := .int) rfl rfl (fun _ h => by cases h) (gw 39 (by decide +kernel) rfl) hi hN (Nat.le_of_ble_eq_true rfl) (Nat.le_of_ble_eq_true rfl) (Nat.le_of_ble_eq_true rfl) dX9_init_7 (fun q1 M2 eq1 eM2 => ?_)
  replace h := h q1 M2 eq1 eM2
  clear eq1 eM2 hi hN
  obtain ⟨hT, h⟩ := h
  refine x_putF E flX9_9 (gw 162 (by decide +kernel) rfl) ⟨tyX9_ok, nmX9, rfl⟩ rfl hnm (by decide +kernel) rfl rfl dX9_init_9 hT (fun M3 eM3 => ?_)
  replace h := h M3 eM3
  clear hT eM3
  refine x_widen (k' := 1) (n' := 650) (Nat.le_of_ble_eq_true rfl) (Nat.le_of_ble_eq_true rfl) ?_
  exact x_vret E hr hlk dX9_init_12 h
theorem dX9_measureChains_0 : decode cX9_measureChains 0 = .ok (.iconst 0, 1) := by decide +kernel
theorem dX9_measureChains_1 : decode cX9_measureChains 1 = .ok (.istore_n 3, 1) := by decide +kernel
theorem dX9_measureChains_2 : decode cX9_measureChains 2 = .ok (.aload_n 1, 1) := by decide +kernel
theorem dX9_measureChains_3 : decode cX9_measureChains 3 = .ok (.invokevirtual 19, 3) := by decide +kernel
theorem dX9_measureChains_6 : decode cX9_measureChains 6 = .ok (.iconst 1, 1) := by decide +kernel
theorem dX9_measureChains_7 : decode cX9_measureChains 7 = .ok (.isub, 1) := by decide +kernel
theorem dX9_measureChains_8 : decode cX9_measureChains 8 = .ok (.istore 4, 2) := by decide +kernel
theorem dX9_measureChains_10 : decode cX9_measureChains 10 = .ok (.iload 4, 2) := by decide +kernel
theorem dX9_measureChains_12 : decode cX9_measureChains 12 = .ok (.ifCond .lt 91, 3) := by decide +kernel
theorem dX9_measureChains_15 : decode cX9_measureChains 15 = .ok (.iconst 0, 1) := by decide +kernel
theorem dX9_measureChains_16 : decode cX9_measureChains 16 = .ok (.istore 5, 2) := by decide +kernel
theorem dX9_measureChains_18 : decode cX9_measureChains 18 = .ok (.iload 4, 2) := by decide +kernel
theorem dX9_measureChains_20 : decode cX9_measureChains 20 = .ok (.iconst 1, 1) := by decide +kernel
theorem dX9_measureChains_21 : decode cX9_measureChains 21 = .ok (.iadd, 1) := by decide +kernel
theorem dX9_measureChains_22 : decode cX9_measureChains 22 = .ok (.istore 6, 2) := by decide +kernel
theorem dX9_measureChains_24 : decode cX9_measureChains 24 = .ok (.iload 6, 2) := by decide +kernel
theorem dX9_measureChains_26 : decode cX9_measureChains 26 = .ok (.aload_n 1, 1) := by decide +kernel
theorem dX9_measureChains_27 : decode cX9_measureChains 27 = .ok (.invokevirtual 19, 3) := by decide +kernel
theorem dX9_measureChains_30 : decode cX9_measureChains 30 = .ok (.if_icmp .ge 45, 3) := by decide +kernel
theorem dX9_measureChains_33 : decode cX9_measureChains 33 = .ok (.aload_n 2, 1) := by decide +kernel
theorem dX9_measureChains_34 : decode cX9_measureChains 34 = .ok (.aload_n 1, 1) := by decide +kernel
theorem dX9_measureChains_35 : decode cX9_measureChains 35 = .ok (.iload 4, 2) := by decide +kernel
theorem dX9_measureChains_37 : decode cX9_measureChains 37 = .ok (.invokevirtual 25, 3) := by decide +kernel
theorem dX9_measureChains_40 : decode cX9_measureChains 40 = .ok (.aload_n 1, 1) := by decide +kernel
theorem dX9_measureChains_41 : decode cX9_measureChains 41 = .ok (.iload 6, 2) := by decide +kernel
theorem dX9_measureChains_43 : decode cX9_measureChains 43 = .ok (.invokevirtual 25, 3) := by decide +kernel
theorem dX9_measureChains_46 : decode cX9_measureChains 46 = .ok (.iconst 0, 1) := by decide +kernel
theorem dX9_measureChains_47 : decode cX9_measureChains 47 = .ok (.invokevirtual 33, 3) := by decide +kernel
theorem dX9_measureChains_50 : decode cX9_measureChains 50 = .ok (.ifCond .eq 19, 3) := by decide +kernel
theorem dX9_measureChains_53 : decode cX9_measureChains 53 = .ok (.iload 5, 2) := by decide +kernel
theorem dX9_measureChains_55 : decode cX9_measureChains 55 = .ok (.aload_n 0, 1) := by decide +kernel
theorem dX9_measureChains_56 : decode cX9_measureChains 56 = .ok (.getfield 9, 3) := by decide +kernel
theorem dX9_measureChains_59 : decode cX9_measureChains 59 = .ok (.iload 6, 2) := by decide +kernel
theorem dX9_measureChains_61 : decode cX9_measureChains 61 = .ok (.invokestatic 29, 3) := by decide +kernel
theorem dX9_measureChains_64 : decode cX9_measureChains 64 = .ok (.invokestatic 39, 3) := by decide +kernel
theorem dX9_measureChains_67 : decode cX9_measureChains 67 = .ok (.istore 5, 2) := by decide +kernel
theorem dX9_measureChains_69 : decode cX9_measureChains 69 = .ok (.iinc 6 1, 3) := by decide +kernel
theorem dX9_measureChains_72 : decode cX9_measureChains 72 = .ok (.goto (-48), 3) := by decide +kernel
theorem dX9_measureChains_75 : decode cX9_measureChains 75 = .ok (.aload_n 0, 1) := by decide +kernel
theorem dX9_measureChains_76 : decode cX9_measureChains 76 = .ok (.getfield 9, 3) := by decide +kernel
theorem dX9_measureChains_79 : decode cX9_measureChains 79 = .ok (.iload 4, 2) := by decide +kernel
theorem dX9_measureChains_81 : decode cX9_measureChains 81 = .ok (.iload 5, 2) := by decide +kernel
theorem dX9_measureChains_83 : decode cX9_measureChains 83 = .ok (.iconst 1, 1) := by decide +kernel
theorem dX9_measureChains_84 : decode cX9_measureChains 84 = .ok (.iadd, 1) := by decide +kernel
theorem dX9_measureChains_85 : decode cX9_measureChains 85 = .ok (.invokestatic 45, 3) := by decide +kernel
theorem dX9_measureChains_88 : decode cX9_measureChains 88 = .ok (.iload_n 3, 1) := by decide +kernel
theorem dX9_measureChains_89 : decode cX9_measureChains 89 = .ok (.iload 5, 2) := by decide +kernel
theorem dX9_measureChains_91 : decode cX9_measureChains 91 = .ok (.iconst 1, 1) := by decide +kernel
theorem dX9_measureChains_92 : decode cX9_measureChains 92 = .ok (.iadd, 1) := by decide +kernel
theorem dX9_measureChains_93 : decode cX9_measureChains 93 = .ok (.invokestatic 39, 3) := by decide +kernel
theorem dX9_measureChains_96 : decode cX9_measureChains 96 = .ok (.istore_n 3, 1) := by decide +kernel
theorem dX9_measureChains_97 : decode cX9_measureChains 97 = .ok (.iinc 4 (-1), 3) := by decide +kernel
theorem dX9_measureChains_100 : decode cX9_measureChains 100 = .ok (.goto (-90), 3) := by decide +kernel
theorem dX9_measureChains_103 : decode cX9_measureChains 103 = .ok (.iload_n 3, 1) := by decide +kernel
theorem dX9_measureChains_104 : decode cX9_measureChains 104 = .ok (.ireturn, 1) := by decide +kernel
set_option maxHeartbeats 4000000 in
set_option maxRecDepth 100000 in
theorem kX9_measureChains (l : Launch) (z : Nat) (D : va_G) (cA : Nat → ClassId) (a0 : Nat) (a1 : Nat) (a2 : Nat) (M : Mem) (K : Int32 → Mem → Prop) (h : PX9_measureChains a0 a1 a2 M K) : Met l yX9_measureChains (.code yX9_measureChains cX9_measureChains 7 (some .int) :: gtbl) ({ frames := 3, cells := 0, slots := 0, locals := 71 } : Room) (va_Pc [.ref a0, .ref a1, .ref a2] (xB z D cA M)) (va_Qi K (xWd z D cA) (xA z)) 0 0 (xA z) := by
  refine x_met (by decide +kernel) (Nat.le_of_ble_eq_true rfl) (L0 := [(0, .ref a0), (1, .ref a1), (2, .ref a2)]) rfl ?_
  intro p e s m args below meth c E hr hlk hnm
  have E : xE RX9 cX9_measureChains 7 D cA p s m args c := E
  replace h := h.2
  refine x_iconst (v := (J 0)) E dX9_measureChains_0 (by decide) ?_
  refine x_istore_n (L' := [(3, .int (J 0)), (0, .ref a0), (1, .ref a1), (2, .ref a2)]) E dX9_measureChains_1 rfl (by decide) rfl ?_
  refine x_aload_n E dX9_measureChains_2 rfl 2 rfl ?_
  refine x_callVi (T := TX6) (N := 3) (t := 7) (As := []) E mlX9_19 inX6_size seX6_size rfl ⟨by decide, by decide⟩ (tX6_size h) (kX6_size l z D cA a1 M _ h) rfl ⟨rfl, rfl⟩ ⟨Nat.le_of_ble_eq_true rfl, Nat.le_of_ble_eq_true rfl⟩ ⟨(Nat.le_of_ble_eq_true rfl), (Nat.le_of_ble_eq_true rfl)⟩ (Nat.le_of_ble_eq_true rfl) rfl dX9_measureChains_3 (x_pure (fun r1 h => ?_))
  refine x_iconst (v := (J 1)) E dX9_measureChains_6 (by decide) ?_
  refine x_isub E dX9_measureChains_7 ?_
  obtain ⟨y3, ey3, h⟩ := h
  refine x_top (v := .int y3) (congrArg _ ey3) ?_
  clear ey3
  refine x_istore (L' := [(4, .int y3), (3, .int (J 0)), (0, .ref a0), (1, .ref a1), (2, .ref a2)]) E dX9_measureChains_8 (by decide) rfl ?_
  refine x_sub (L' := [(0, .ref a0), (1, .ref a1), (2, .ref a2), (3, .int (J 0)), (4, .int y3)]) [2, 3, 4, 1, 0] rfl ?_
  refine lp_sound (T := fun sv => xG p l e ({ frames := 3, cells := 0, slots := 0, locals := 71 } : Room) s m args below meth c (MQ below (va_Qi K (xWd z D cA) (xA z)) args s 0 0 (xA z)) 7 z D cA sv.1 (0) (0) 10 [(0, .ref a0), (1, .ref a1), (2, .ref a2), (3, .int sv.2.1), (4, .int sv.2.2)] []) ?_ (M, (J 0), y3) h
  clear h
  intro kc10 hk10 sv h
  obtain ⟨M, x3, x4⟩ := sv
  replace h : CX9_measureChains_10 K a0 a1 a2 kc10 M x3 x4 := h
  try dsimp only
  refine x_iload E dX9_measureChains_10 4 rfl ?_
  refine x_if_lt (tgt := 103) E dX9_measureChains_12 (by decide) (fun c4 => ?_) (fun c4 => ?_)
  · replace h := xbr_t h c4
    clear c4
    refine x_iload_n E dX9_measureChains_103 rfl 3 rfl ?_
    exact x_iret E hr hlk dX9_measureChains_104 h
  · replace h := xbr_f h c4
    clear c4
    refine x_iconst (v := (J 0)) E dX9_measureChains_15 (by decide) ?_
    refine x_istore (L' := [(5, .int (J 0)), (0, .ref a0), (1, .ref a1), (2, .ref a2), (3, .int x3), (4, .int x4)]) E dX9_measureChains_16 (by decide) rfl ?_
    refine x_iload E dX9_measureChains_18 5 rfl ?_
    refine x_iconst (v := (J 1)) E dX9_measureChains_20 (by decide) ?_
    refine x_iadd E dX9_measureChains_21 ?_
    obtain ⟨y5, ey5, h⟩ := h
    refine x_top (v := .int y5) (congrArg _ ey5) ?_
    clear ey5
    refine x_istore (L' := [(6, .int y5), (5, .int (J 0)), (0, .ref a0), (1, .ref a1), (2, .ref a2), (3, .int x3), (4, .int x4)]) E dX9_measureChains_22 (by decide) rfl ?_
    refine x_sub (L' := [(0, .ref a0), (1, .ref a1), (2, .ref a2), (3, .int x3), (4, .int x4), (5, .int (J 0)), (6, .int y5)]) [2, 3, 4, 5, 6, 1, 0] rfl ?_
    refine lp_sound (T := fun sv => xG p l e ({ frames := 3, cells := 0, slots := 0, locals := 71 } : Room) s m args below meth c (MQ below (va_Qi K (xWd z D cA) (xA z)) args s 0 0 (xA z)) 7 z D cA M (0) (0) 24 [(0, .ref a0), (1, .ref a1), (2, .ref a2), (3, .int x3), (4, .int x4), (5, .int sv.1), (6, .int sv.2)] []) ?_ ((J 0), y5) h
    clear h
    intro kc24 hk24 sv h
    obtain ⟨x5, x6⟩ := sv
    replace h : CX9_measureChains_24 K kc10 M a0 a1 a2 x3 x4 kc24 x5 x6 := h
    try dsimp only
    refine x_iload E dX9_measureChains_24 6 rfl ?_
    refine x_aload_n E dX9_measureChains_26 rfl 1 rfl ?_
    refine x_callVi (T := TX6) (N := 3) (t := 7) (As := []) E mlX9_19 inX6_size seX6_size rfl ⟨by decide, by decide⟩ (tX6_size h) (kX6_size l z D cA a1 M _ h) rfl ⟨rfl, rfl⟩ ⟨Nat.le_of_ble_eq_true rfl, Nat.le_of_ble_eq_true rfl⟩ ⟨(Nat.le_of_ble_eq_true rfl), (Nat.le_of_ble_eq_true rfl)⟩ (Nat.le_of_ble_eq_true rfl) rfl dX9_measureChains_27 (x_pure (fun r6 h => ?_))
    refine x_icmp_ge (tgt := 75) E dX9_measureChains_30 (by decide) (fun c8 => ?_) (fun c8 => ?_)
    · replace h := xbr_t h c8
      clear c8
      refine x_aload_n E dX9_measureChains_75 rfl 0 rfl ?_
      obtain ⟨hT, q9, hv, h⟩ := h
      refine x_get E flX9_9 dX9_measureChains_76 hT hv ?_
      clear hT hv
      refine x_iload E dX9_measureChains_79 4 rfl ?_
      refine x_iload E dX9_measureChains_81 5 rfl ?_
      refine x_iconst (v := (J 1)) E dX9_measureChains_83 (by decide) ?_
      refine x_iadd E dX9_measureChains_84 ?_
      refine x_callSNv (As := [.ref q9, .int x4, .int (x5 + (J 1))]) E mlX9_45 stX10_write (kX10_write l z D cA q9 x4 (x5 + (J 1)) M _ h) rfl ⟨rfl, rfl⟩ ⟨Nat.le_of_ble_eq_true rfl, Nat.le_of_ble_eq_true rfl⟩ ⟨(Nat.le_of_ble_eq_true rfl), (Nat.le_of_ble_eq_true rfl)⟩ (Nat.le_of_ble_eq_true rfl) rfl dX9_measureChains_85 (fun M11 h => ?_)
      refine x_iload_n E dX9_measureChains_88 rfl 3 rfl ?_
      refine x_iload E dX9_measureChains_89 5 rfl ?_
      refine x_iconst (v := (J 1)) E dX9_measureChains_91 (by decide) ?_
      refine x_iadd E dX9_measureChains_92 ?_
      refine x_mmax E (gw 642 (by decide +kernel) rfl) (gw 30 (by decide +kernel) rfl) (gw 3 (by decide +kernel) rfl) (gw 31 (by decide +kernel) rfl) dX9_measureChains_93 (Nat.le_of_ble_eq_true rfl) (Nat.le_of_ble_eq_true rfl) (Nat.le_of_ble_eq_true rfl) (Nat.le_of_ble_eq_true rfl) ?_
      obtain ⟨y12, ey12, h⟩ := h
      refine x_top (v := .int y12) (congrArg _ ey12) ?_
      clear ey12
      refine x_istore_n (L' := [(3, .int y12), (0, .ref a0), (1, .ref a1), (2, .ref a2), (4, .int x4), (5, .int x5), (6, .int x6)]) E dX9_measureChains_96 rfl (by decide) rfl ?_
      refine x_iinc (v := (x4 + (J (-1)))) (L' := [(4, .int (x4 + (J (-1)))), (3, .int y12), (0, .ref a0), (1, .ref a1), (2, .ref a2), (5, .int x5), (6, .int x6)]) E dX9_measureChains_97 4 rfl rfl (by decide) rfl ?_
      refine x_goto (tgt := 10) E dX9_measureChains_100 (by decide) ?_
      refine x_sub (L' := [(0, .ref a0), (1, .ref a1), (2, .ref a2), (3, .int y12), (4, .int (x4 + (J (-1))))]) [2, 3, 4, 1, 0] rfl ?_
      exact hk10 (M11, y12, (x4 + (J (-1)))) h
    · replace h := xbr_f h c8
      clear c8
      refine x_aload_n E dX9_measureChains_33 rfl 2 rfl ?_
      refine x_aload_n E dX9_measureChains_34 rfl 1 rfl ?_
      refine x_iload E dX9_measureChains_35 4 rfl ?_
      refine x_callVi (T := TX6) (N := 3) (t := 7) (As := [.int x4]) E mlX9_25 inX6_bookAt seX6_bookAt rfl ⟨by decide, by decide⟩ (tX6_bookAt h) (kX6_bookAt l z D cA a1 x4 M _ h) rfl ⟨rfl, rfl⟩ ⟨Nat.le_of_ble_eq_true rfl, Nat.le_of_ble_eq_true rfl⟩ ⟨(Nat.le_of_ble_eq_true rfl), (Nat.le_of_ble_eq_true rfl)⟩ (Nat.le_of_ble_eq_true rfl) rfl dX9_measureChains_37 (x_pure (fun r13 h => ?_))
      refine x_aload_n E dX9_measureChains_40 rfl 1 rfl ?_
      refine x_iload E dX9_measureChains_41 6 rfl ?_
      refine x_callVi (T := TX6) (N := 3) (t := 7) (As := [.int x6]) E mlX9_25 inX6_bookAt seX6_bookAt rfl ⟨by decide, by decide⟩ (tX6_bookAt h) (kX6_bookAt l z D cA a1 x6 M _ h) rfl ⟨rfl, rfl⟩ ⟨Nat.le_of_ble_eq_true rfl, Nat.le_of_ble_eq_true rfl⟩ ⟨(Nat.le_of_ble_eq_true rfl), (Nat.le_of_ble_eq_true rfl)⟩ (Nat.le_of_ble_eq_true rfl) rfl dX9_measureChains_43 (x_pure (fun r15 h => ?_))
      refine x_iconst (v := (J 0)) E dX9_measureChains_46 (by decide) ?_
      refine x_callVi (T := TX2) (N := 4) (t := 3) (As := [.int r13, .int r15, .int (J 0)]) E mlX9_33 inX2_isAhead seX2_isAhead rfl ⟨by decide, by decide⟩ (tX2_isAhead h) (kX2_isAhead l z D cA a2 r13 r15 (J 0) M _ h) rfl ⟨rfl, rfl⟩ ⟨Nat.le_of_ble_eq_true rfl, Nat.le_of_ble_eq_true rfl⟩ ⟨(Nat.le_of_ble_eq_true rfl), (Nat.le_of_ble_eq_true rfl)⟩ (Nat.le_of_ble_eq_true rfl) rfl dX9_measureChains_47 (x_pure (fun r17 h => ?_))
      refine x_if_eq (tgt := 69) E dX9_measureChains_50 (by decide) (fun c19 => ?_) (fun c19 => ?_)
      · replace h := xbr_t h c19
        clear c19
        refine x_iinc (v := (x6 + (J 1))) (L' := [(6, .int (x6 + (J 1))), (0, .ref a0), (1, .ref a1), (2, .ref a2), (3, .int x3), (4, .int x4), (5, .int x5)]) E dX9_measureChains_69 6 rfl rfl (by decide) rfl ?_
        refine x_goto (tgt := 24) E dX9_measureChains_72 (by decide) ?_
        refine x_sub (L' := [(0, .ref a0), (1, .ref a1), (2, .ref a2), (3, .int x3), (4, .int x4), (5, .int x5), (6, .int (x6 + (J 1)))]) [1, 2, 3, 4, 5, 6, 0] rfl ?_
        exact hk24 (x5, (x6 + (J 1))) h
      · replace h := xbr_f h c19
        clear c19
        refine x_iload E dX9_measureChains_53 5 rfl ?_
        refine x_aload_n E dX9_measureChains_55 rfl 0 rfl ?_
        obtain ⟨hT, q20, hv, h⟩ := h
        refine x_get E flX9_9 dX9_measureChains_56 hT hv ?_
        clear hT hv
        refine x_iload E dX9_measureChains_59 6 rfl ?_
        refine x_callSNi (As := [.ref q20, .int x6]) E mlX9_29 stX10_entry (kX10_entry l z D cA q20 x6 M _ h) rfl ⟨rfl, rfl⟩ ⟨Nat.le_of_ble_eq_true rfl, Nat.le_of_ble_eq_true rfl⟩ ⟨(Nat.le_of_ble_eq_true rfl), (Nat.le_of_ble_eq_true rfl)⟩ (Nat.le_of_ble_eq_true rfl) rfl dX9_measureChains_61 (x_pure (fun r21 h => ?_))
        refine x_mmax E (gw 642 (by decide +kernel) rfl) (gw 30 (by decide +kernel) rfl) (gw 3 (by decide +kernel) rfl) (gw 31 (by decide +kernel) rfl) dX9_measureChains_64 (Nat.le_of_ble_eq_true rfl) (Nat.le_of_ble_eq_true rfl) (Nat.le_of_ble_eq_true rfl) (Nat.le_of_ble_eq_true rfl) ?_
        obtain ⟨y23, ey23, h⟩ := h
        refine x_top (v := .int y23) (congrArg _ ey23) ?_
        clear ey23
        refine x_istore (L' := [(5, .int y23), (0, .ref a0), (1, .ref a1), (2, .ref a2), (3, .int x3), (4, .int x4), (6, .int x6)]) E dX9_measureChains_67 (by decide) rfl ?_
        refine x_iinc (v := (x6 + (J 1))) (L' := [(6, .int (x6 + (J 1))), (5, .int y23), (0, .ref a0), (1, .ref a1), (2, .ref a2), (3, .int x3), (4, .int x4)]) E dX9_measureChains_69 6 rfl rfl (by decide) rfl ?_
        refine x_goto (tgt := 24) E dX9_measureChains_72 (by decide) ?_
        refine x_sub (L' := [(0, .ref a0), (1, .ref a1), (2, .ref a2), (3, .int x3), (4, .int x4), (5, .int y23), (6, .int (x6 + (J 1)))]) [2, 3, 4, 5, 6, 1, 0] rfl ?_
        exact hk24 (y23, (x6 + (J 1))) h
theorem dX9_outOfPlace_0 : decode cX9_outOfPlace 0 = .ok (.aload_n 0, 1) := by decide +kernel
theorem dX9_outOfPlace_1 : decode cX9_outOfPlace 1 = .ok (.aload_n 1, 1) := by decide +kernel
theorem dX9_outOfPlace_2 : decode cX9_outOfPlace 2 = .ok (.aload_n 2, 1) := by decide +kernel
theorem dX9_outOfPlace_3 : decode cX9_outOfPlace 3 = .ok (.invokevirtual 15, 3) := by decide +kernel
theorem dX9_outOfPlace_6 : decode cX9_outOfPlace 6 = .ok (.istore_n 3, 1) := by decide +kernel
theorem dX9_outOfPlace_7 : decode cX9_outOfPlace 7 = .ok (.iconst (-1), 1) := by decide +kernel
theorem dX9_outOfPlace_8 : decode cX9_outOfPlace 8 = .ok (.istore 4, 2) := by decide +kernel
theorem dX9_outOfPlace_10 : decode cX9_outOfPlace 10 = .ok (.iconst 0, 1) := by decide +kernel
theorem dX9_outOfPlace_11 : decode cX9_outOfPlace 11 = .ok (.istore 5, 2) := by decide +kernel
theorem dX9_outOfPlace_13 : decode cX9_outOfPlace 13 = .ok (.iconst 0, 1) := by decide +kernel
theorem dX9_outOfPlace_14 : decode cX9_outOfPlace 14 = .ok (.istore 6, 2) := by decide +kernel
theorem dX9_outOfPlace_16 : decode cX9_outOfPlace 16 = .ok (.iload 6, 2) := by decide +kernel
theorem dX9_outOfPlace_18 : decode cX9_outOfPlace 18 = .ok (.aload_n 1, 1) := by decide +kernel
theorem dX9_outOfPlace_19 : decode cX9_outOfPlace 19 = .ok (.invokevirtual 19, 3) := by decide +kernel
theorem dX9_outOfPlace_22 : decode cX9_outOfPlace 22 = .ok (.if_icmp .ge 67, 3) := by decide +kernel
theorem dX9_outOfPlace_25 : decode cX9_outOfPlace 25 = .ok (.aload_n 1, 1) := by decide +kernel
theorem dX9_outOfPlace_26 : decode cX9_outOfPlace 26 = .ok (.iload 6, 2) := by decide +kernel
theorem dX9_outOfPlace_28 : decode cX9_outOfPlace 28 = .ok (.invokevirtual 25, 3) := by decide +kernel
theorem dX9_outOfPlace_31 : decode cX9_outOfPlace 31 = .ok (.istore 7, 2) := by decide +kernel
theorem dX9_outOfPlace_33 : decode cX9_outOfPlace 33 = .ok (.aload_n 0, 1) := by decide +kernel
theorem dX9_outOfPlace_34 : decode cX9_outOfPlace 34 = .ok (.getfield 9, 3) := by decide +kernel
theorem dX9_outOfPlace_37 : decode cX9_outOfPlace 37 = .ok (.iload 6, 2) := by decide +kernel
theorem dX9_outOfPlace_39 : decode cX9_outOfPlace 39 = .ok (.invokestatic 29, 3) := by decide +kernel
theorem dX9_outOfPlace_42 : decode cX9_outOfPlace 42 = .ok (.iload_n 3, 1) := by decide +kernel
theorem dX9_outOfPlace_43 : decode cX9_outOfPlace 43 = .ok (.if_icmp .ne 31, 3) := by decide +kernel
theorem dX9_outOfPlace_46 : decode cX9_outOfPlace 46 = .ok (.iload 4, 2) := by decide +kernel
theorem dX9_outOfPlace_48 : decode cX9_outOfPlace 48 = .ok (.iconst (-1), 1) := by decide +kernel
theorem dX9_outOfPlace_49 : decode cX9_outOfPlace 49 = .ok (.if_icmp .eq 15, 3) := by decide +kernel
theorem dX9_outOfPlace_52 : decode cX9_outOfPlace 52 = .ok (.aload_n 2, 1) := by decide +kernel
theorem dX9_outOfPlace_53 : decode cX9_outOfPlace 53 = .ok (.iload 4, 2) := by decide +kernel
theorem dX9_outOfPlace_55 : decode cX9_outOfPlace 55 = .ok (.iload 7, 2) := by decide +kernel
theorem dX9_outOfPlace_57 : decode cX9_outOfPlace 57 = .ok (.iconst 0, 1) := by decide +kernel
theorem dX9_outOfPlace_58 : decode cX9_outOfPlace 58 = .ok (.invokevirtual 33, 3) := by decide +kernel
theorem dX9_outOfPlace_61 : decode cX9_outOfPlace 61 = .ok (.ifCond .eq 13, 3) := by decide +kernel
theorem dX9_outOfPlace_64 : decode cX9_outOfPlace 64 = .ok (.iload 7, 2) := by decide +kernel
theorem dX9_outOfPlace_66 : decode cX9_outOfPlace 66 = .ok (.istore 4, 2) := by decide +kernel
theorem dX9_outOfPlace_68 : decode cX9_outOfPlace 68 = .ok (.iinc 3 (-1), 3) := by decide +kernel
theorem dX9_outOfPlace_71 : decode cX9_outOfPlace 71 = .ok (.goto 12, 3) := by decide +kernel
theorem dX9_outOfPlace_74 : decode cX9_outOfPlace 74 = .ok (.iload 5, 2) := by decide +kernel
theorem dX9_outOfPlace_76 : decode cX9_outOfPlace 76 = .ok (.iconst 1, 1) := by decide +kernel
theorem dX9_outOfPlace_77 : decode cX9_outOfPlace 77 = .ok (.iload 7, 2) := by decide +kernel
theorem dX9_outOfPlace_79 : decode cX9_outOfPlace 79 = .ok (.ishl, 1) := by decide +kernel
theorem dX9_outOfPlace_80 : decode cX9_outOfPlace 80 = .ok (.ior, 1) := by decide +kernel
theorem dX9_outOfPlace_81 : decode cX9_outOfPlace 81 = .ok (.istore 5, 2) := by decide +kernel
theorem dX9_outOfPlace_83 : decode cX9_outOfPlace 83 = .ok (.iinc 6 1, 3) := by decide +kernel
theorem dX9_outOfPlace_86 : decode cX9_outOfPlace 86 = .ok (.goto (-70), 3) := by decide +kernel
theorem dX9_outOfPlace_89 : decode cX9_outOfPlace 89 = .ok (.iload 5, 2) := by decide +kernel
theorem dX9_outOfPlace_91 : decode cX9_outOfPlace 91 = .ok (.ireturn, 1) := by decide +kernel
set_option maxHeartbeats 4000000 in
set_option maxRecDepth 100000 in
theorem kX9_outOfPlace (l : Launch) (z : Nat) (D : va_G) (cA : Nat → ClassId) (a0 : Nat) (a1 : Nat) (a2 : Nat) (M : Mem) (K : Int32 → Mem → Prop) (h : PX9_outOfPlace a0 a1 a2 M K) : Met l yX9_outOfPlace (.code yX9_outOfPlace cX9_outOfPlace 8 (some .int) :: gtbl) ({ frames := 4, cells := 0, slots := 0, locals := 97 } : Room) (va_Pc [.ref a0, .ref a1, .ref a2] (xB z D cA M)) (va_Qi K (xWd z D cA) (xA z)) 0 0 (xA z) := by
  refine x_met (by decide +kernel) (Nat.le_of_ble_eq_true rfl) (L0 := [(0, .ref a0), (1, .ref a1), (2, .ref a2)]) rfl ?_
  intro p e s m args below meth c E hr hlk hnm
  have E : xE RX9 cX9_outOfPlace 8 D cA p s m args c := E
  replace h := h.2
  refine x_aload_n E dX9_outOfPlace_0 rfl 0 rfl ?_
  refine x_aload_n E dX9_outOfPlace_1 rfl 1 rfl ?_
  refine x_aload_n E dX9_outOfPlace_2 rfl 2 rfl ?_
  refine x_callVi (T := TX9) (N := 1) (t := 10) (As := [.ref a1, .ref a2]) E mlX9_15 inX9_measureChains seX9_measureChains rfl ⟨by decide, by decide⟩ (tX9_measureChains h) (kX9_measureChains l z D cA a0 a1 a2 M _ h) rfl ⟨rfl, rfl⟩ ⟨Nat.le_of_ble_eq_true rfl, Nat.le_of_ble_eq_true rfl⟩ ⟨(Nat.le_of_ble_eq_true rfl), (Nat.le_of_ble_eq_true rfl)⟩ (Nat.le_of_ble_eq_true rfl) rfl dX9_outOfPlace_3 (fun r1 M2 h => ?_)
  refine x_istore_n (L' := [(3, .int r1), (0, .ref a0), (1, .ref a1), (2, .ref a2)]) E dX9_outOfPlace_6 rfl (by decide) rfl ?_
  refine x_iconst (v := (J (-1))) E dX9_outOfPlace_7 (by decide) ?_
  refine x_istore (L' := [(4, .int (J (-1))), (3, .int r1), (0, .ref a0), (1, .ref a1), (2, .ref a2)]) E dX9_outOfPlace_8 (by decide) rfl ?_
  refine x_iconst (v := (J 0)) E dX9_outOfPlace_10 (by decide) ?_
  refine x_istore (L' := [(5, .int (J 0)), (4, .int (J (-1))), (3, .int r1), (0, .ref a0), (1, .ref a1), (2, .ref a2)]) E dX9_outOfPlace_11 (by decide) rfl ?_
  refine x_iconst (v := (J 0)) E dX9_outOfPlace_13 (by decide) ?_
  refine x_istore (L' := [(6, .int (J 0)), (5, .int (J 0)), (4, .int (J (-1))), (3, .int r1), (0, .ref a0), (1, .ref a1), (2, .ref a2)]) E dX9_outOfPlace_14 (by decide) rfl ?_
  refine x_sub (L' := [(0, .ref a0), (1, .ref a1), (2, .ref a2), (3, .int r1), (4, .int (J (-1))), (5, .int (J 0)), (6, .int (J 0))]) [4, 5, 6, 3, 2, 1, 0] rfl ?_
  refine lp_sound (T := fun sv => xG p l e ({ frames := 4, cells := 0, slots := 0, locals := 97 } : Room) s m args below meth c (MQ below (va_Qi K (xWd z D cA) (xA z)) args s 0 0 (xA z)) 8 z D cA M2 (0) (0) 16 [(0, .ref a0), (1, .ref a1), (2, .ref a2), (3, .int sv.1), (4, .int sv.2.1), (5, .int sv.2.2.1), (6, .int sv.2.2.2)] []) ?_ (r1, (J (-1)), (J 0), (J 0)) h
  clear h
  intro kc16 hk16 sv h
  obtain ⟨x3, x4, x5, x6⟩ := sv
  replace h : CX9_outOfPlace_16 K M2 a0 a1 a2 kc16 x3 x4 x5 x6 := h
  try dsimp only
  have hJ74 : ∀ (j3 : Int32) (j4 : Int32) (j5 : Int32) (j6 : Int32) (j7 : Int32), JX9_outOfPlace_74 K kc16 M2 a0 a1 a2 j3 j4 j5 j6 j7 → xG p l e ({ frames := 4, cells := 0, slots := 0, locals := 97 } : Room) s m args below meth c (MQ below (va_Qi K (xWd z D cA) (xA z)) args s 0 0 (xA z)) 8 z D cA M2 (0) (0) 74 [(0, .ref a0), (1, .ref a1), (2, .ref a2), (3, .int j3), (4, .int j4), (5, .int j5), (6, .int j6), (7, .int j7)] [] := by
    intro j3 j4 j5 j6 j7 h
    refine x_iload E dX9_outOfPlace_74 5 rfl ?_
    refine x_iconst (v := (J 1)) E dX9_outOfPlace_76 (by decide) ?_
    refine x_iload E dX9_outOfPlace_77 7 rfl ?_
    refine x_ishl E dX9_outOfPlace_79 ?_
    refine x_ior E dX9_outOfPlace_80 ?_
    obtain ⟨y12, ey12, h⟩ := h
    refine x_top (v := .int y12) (congrArg _ ey12) ?_
    clear ey12
    refine x_istore (L' := [(5, .int y12), (0, .ref a0), (1, .ref a1), (2, .ref a2), (3, .int j3), (4, .int j4), (6, .int j6), (7, .int j7)]) E dX9_outOfPlace_81 (by decide) rfl ?_
    refine x_iinc (v := (j6 + (J 1))) (L' := [(6, .int (j6 + (J 1))), (5, .int y12), (0, .ref a0), (1, .ref a1), (2, .ref a2), (3, .int j3), (4, .int j4), (7, .int j7)]) E dX9_outOfPlace_83 6 rfl rfl (by decide) rfl ?_
    refine x_goto (tgt := 16) E dX9_outOfPlace_86 (by decide) ?_
    refine x_sub (L' := [(0, .ref a0), (1, .ref a1), (2, .ref a2), (3, .int j3), (4, .int j4), (5, .int y12), (6, .int (j6 + (J 1)))]) [2, 3, 4, 5, 6, 1, 0] rfl ?_
    exact hk16 (j3, j4, y12, (j6 + (J 1))) h
  refine x_iload E dX9_outOfPlace_16 6 rfl ?_
  refine x_aload_n E dX9_outOfPlace_18 rfl 1 rfl ?_
  refine x_callVi (T := TX6) (N := 3) (t := 7) (As := []) E mlX9_19 inX6_size seX6_size rfl ⟨by decide, by decide⟩ (tX6_size h) (kX6_size l z D cA a1 M2 _ h) rfl ⟨rfl, rfl⟩ ⟨Nat.le_of_ble_eq_true rfl, Nat.le_of_ble_eq_true rfl⟩ ⟨(Nat.le_of_ble_eq_true rfl), (Nat.le_of_ble_eq_true rfl)⟩ (Nat.le_of_ble_eq_true rfl) rfl dX9_outOfPlace_19 (x_pure (fun r3 h => ?_))
  refine x_icmp_ge (tgt := 89) E dX9_outOfPlace_22 (by decide) (fun c5 => ?_) (fun c5 => ?_)
  · replace h := xbr_t h c5
    clear c5
    refine x_iload E dX9_outOfPlace_89 5 rfl ?_
    exact x_iret E hr hlk dX9_outOfPlace_91 h
  · replace h := xbr_f h c5
    clear c5
    refine x_aload_n E dX9_outOfPlace_25 rfl 1 rfl ?_
    refine x_iload E dX9_outOfPlace_26 6 rfl ?_
    refine x_callVi (T := TX6) (N := 3) (t := 7) (As := [.int x6]) E mlX9_25 inX6_bookAt seX6_bookAt rfl ⟨by decide, by decide⟩ (tX6_bookAt h) (kX6_bookAt l z D cA a1 x6 M2 _ h) rfl ⟨rfl, rfl⟩ ⟨Nat.le_of_ble_eq_true rfl, Nat.le_of_ble_eq_true rfl⟩ ⟨(Nat.le_of_ble_eq_true rfl), (Nat.le_of_ble_eq_true rfl)⟩ (Nat.le_of_ble_eq_true rfl) rfl dX9_outOfPlace_28 (x_pure (fun r6 h => ?_))
    refine x_istore (L' := [(7, .int r6), (0, .ref a0), (1, .ref a1), (2, .ref a2), (3, .int x3), (4, .int x4), (5, .int x5), (6, .int x6)]) E dX9_outOfPlace_31 (by decide) rfl ?_
    refine x_aload_n E dX9_outOfPlace_33 rfl 1 rfl ?_
    obtain ⟨hT, q8, hv, h⟩ := h
    refine x_get E flX9_9 dX9_outOfPlace_34 hT hv ?_
    clear hT hv
    refine x_iload E dX9_outOfPlace_37 7 rfl ?_
    refine x_callSNi (As := [.ref q8, .int x6]) E mlX9_29 stX10_entry (kX10_entry l z D cA q8 x6 M2 _ h) rfl ⟨rfl, rfl⟩ ⟨Nat.le_of_ble_eq_true rfl, Nat.le_of_ble_eq_true rfl⟩ ⟨(Nat.le_of_ble_eq_true rfl), (Nat.le_of_ble_eq_true rfl)⟩ (Nat.le_of_ble_eq_true rfl) rfl dX9_outOfPlace_39 (x_pure (fun r9 h => ?_))
    refine x_iload_n E dX9_outOfPlace_42 rfl 4 rfl ?_
    refine x_icmp_ne (tgt := 74) E dX9_outOfPlace_43 (by decide) (fun c11 => ?_) (fun c11 => ?_)
    · replace h := xbr_f h c11
      clear c11
      refine x_sub (L' := [(0, .ref a0), (1, .ref a1), (2, .ref a2), (3, .int x3), (4, .int x4), (5, .int x5), (6, .int x6), (7, .int r6)]) [1, 2, 3, 4, 5, 6, 7, 0] rfl ?_
      exact hJ74 x3 x4 x5 x6 r6 h
    · replace h := xbr_t h c11
      clear c11
      refine x_iload E dX9_outOfPlace_46 5 rfl ?_
      refine x_iconst (v := (J (-1))) E dX9_outOfPlace_48 (by decide) ?_
      refine x_icmp_eq (tgt := 64) E dX9_outOfPlace_49 (by decide) (fun c13 => ?_) (fun c13 => ?_)
      · replace h := xbr_t h c13
        clear c13
        refine x_iload E dX9_outOfPlace_64 0 rfl ?_
        refine x_istore (L' := [(4, .int r6), (7, .int r6), (0, .ref a0), (1, .ref a1), (2, .ref a2), (3, .int x3), (5, .int x5), (6, .int x6)]) E dX9_outOfPlace_66 (by decide) rfl ?_
        refine x_iinc (v := (x3 + (J (-1)))) (L' := [(3, .int (x3 + (J (-1)))), (4, .int r6), (7, .int r6), (0, .ref a0), (1, .ref a1), (2, .ref a2), (5, .int x5), (6, .int x6)]) E dX9_outOfPlace_68 5 rfl rfl (by decide) rfl ?_
        refine x_goto (tgt := 83) E dX9_outOfPlace_71 (by decide) ?_
        refine x_iinc (v := (x6 + (J 1))) (L' := [(6, .int (x6 + (J 1))), (3, .int (x3 + (J (-1)))), (4, .int r6), (7, .int r6), (0, .ref a0), (1, .ref a1), (2, .ref a2), (5, .int x5)]) E dX9_outOfPlace_83 7 rfl rfl (by decide) rfl ?_
        refine x_goto (tgt := 16) E dX9_outOfPlace_86 (by decide) ?_
        refine x_sub (L' := [(0, .ref a0), (1, .ref a1), (2, .ref a2), (3, .int (x3 + (J (-1)))), (4, .int r6), (5, .int x5), (6, .int (x6 + (J 1)))]) [4, 5, 6, 1, 2, 7, 0] rfl ?_
        exact hk16 ((x3 + (J (-1))), r6, x5, (x6 + (J 1))) h
      · replace h := xbr_f h c13
        clear c13
        refine x_aload_n E dX9_outOfPlace_52 rfl 3 rfl ?_
        refine x_iload E dX9_outOfPlace_53 5 rfl ?_
        refine x_iload E dX9_outOfPlace_55 0 rfl ?_
        refine x_iconst (v := (J 0)) E dX9_outOfPlace_57 (by decide) ?_
        refine x_callVi (T := TX2) (N := 4) (t := 3) (As := [.int x4, .int r6, .int (J 0)]) E mlX9_33 inX2_isAhead seX2_isAhead rfl ⟨by decide, by decide⟩ (tX2_isAhead h) (kX2_isAhead l z D cA a2 x4 r6 (J 0) M2 _ h) rfl ⟨rfl, rfl⟩ ⟨Nat.le_of_ble_eq_true rfl, Nat.le_of_ble_eq_true rfl⟩ ⟨(Nat.le_of_ble_eq_true rfl), (Nat.le_of_ble_eq_true rfl)⟩ (Nat.le_of_ble_eq_true rfl) rfl dX9_outOfPlace_58 (x_pure (fun r14 h => ?_))
        refine x_if_eq (tgt := 74) E dX9_outOfPlace_61 (by decide) (fun c16 => ?_) (fun c16 => ?_)
        · replace h := xbr_t h c16
          clear c16
          refine x_sub (L' := [(0, .ref a0), (1, .ref a1), (2, .ref a2), (3, .int x3), (4, .int x4), (5, .int x5), (6, .int x6), (7, .int r6)]) [1, 2, 3, 4, 5, 6, 7, 0] rfl ?_
          exact hJ74 x3 x4 x5 x6 r6 h
        · replace h := xbr_f h c16
          clear c16
          refine x_iload E dX9_outOfPlace_64 0 rfl ?_
          refine x_istore (L' := [(4, .int r6), (7, .int r6), (0, .ref a0), (1, .ref a1), (2, .ref a2), (3, .int x3), (5, .int x5), (6, .int x6)]) E dX9_outOfPlace_66 (by decide) rfl ?_
          refine x_iinc (v := (x3 + (J (-1)))) (L' := [(3, .int (x3 + (J (-1)))), (4, .int r6), (7, .int r6), (0, .ref a0), (1, .ref a1), (2, .ref a2), (5, .int x5), (6, .int x6)]) E dX9_outOfPlace_68 5 rfl rfl (by decide) rfl ?_
          refine x_goto (tgt := 83) E dX9_outOfPlace_71 (by decide) ?_
          refine x_iinc (v := (x6 + (J 1))) (L' := [(6, .int (x6 + (J 1))), (3, .int (x3 + (J (-1)))), (4, .int r6), (7, .int r6), (0, .ref a0), (1, .ref a1), (2, .ref a2), (5, .int x5)]) E dX9_outOfPlace_83 7 rfl rfl (by decide) rfl ?_
          refine x_goto (tgt := 16) E dX9_outOfPlace_86 (by decide) ?_
          refine x_sub (L' := [(0, .ref a0), (1, .ref a1), (2, .ref a2), (3, .int (x3 + (J (-1)))), (4, .int r6), (5, .int x5), (6, .int (x6 + (J 1)))]) [4, 5, 6, 1, 2, 7, 0] rfl ?_
          exact hk16 ((x3 + (J (-1))), r6, x5, (x6 + (J 1))) h
theorem dX9_pairs_0 : decode cX9_pairs 0 = .ok (.iconst 0, 1) := by decide +kernel
theorem dX9_pairs_1 : decode cX9_pairs 1 = .ok (.istore_n 3, 1) := by decide +kernel
theorem dX9_pairs_2 : decode cX9_pairs 2 = .ok (.iconst 0, 1) := by decide +kernel
theorem dX9_pairs_3 : decode cX9_pairs 3 = .ok (.istore 4, 2) := by decide +kernel
theorem dX9_pairs_5 : decode cX9_pairs 5 = .ok (.iload 4, 2) := by decide +kernel
theorem dX9_pairs_7 : decode cX9_pairs 7 = .ok (.aload_n 1, 1) := by decide +kernel
theorem dX9_pairs_8 : decode cX9_pairs 8 = .ok (.invokevirtual 19, 3) := by decide +kernel
theorem dX9_pairs_11 : decode cX9_pairs 11 = .ok (.if_icmp .ge 53, 3) := by decide +kernel
theorem dX9_pairs_14 : decode cX9_pairs 14 = .ok (.iload 4, 2) := by decide +kernel
theorem dX9_pairs_16 : decode cX9_pairs 16 = .ok (.iconst 1, 1) := by decide +kernel
theorem dX9_pairs_17 : decode cX9_pairs 17 = .ok (.iadd, 1) := by decide +kernel
theorem dX9_pairs_18 : decode cX9_pairs 18 = .ok (.istore 5, 2) := by decide +kernel
theorem dX9_pairs_20 : decode cX9_pairs 20 = .ok (.iload 5, 2) := by decide +kernel
theorem dX9_pairs_22 : decode cX9_pairs 22 = .ok (.aload_n 1, 1) := by decide +kernel
theorem dX9_pairs_23 : decode cX9_pairs 23 = .ok (.invokevirtual 19, 3) := by decide +kernel
theorem dX9_pairs_26 : decode cX9_pairs 26 = .ok (.if_icmp .ge 32, 3) := by decide +kernel
theorem dX9_pairs_29 : decode cX9_pairs 29 = .ok (.aload_n 2, 1) := by decide +kernel
theorem dX9_pairs_30 : decode cX9_pairs 30 = .ok (.aload_n 1, 1) := by decide +kernel
theorem dX9_pairs_31 : decode cX9_pairs 31 = .ok (.iload 4, 2) := by decide +kernel
theorem dX9_pairs_33 : decode cX9_pairs 33 = .ok (.invokevirtual 25, 3) := by decide +kernel
theorem dX9_pairs_36 : decode cX9_pairs 36 = .ok (.aload_n 1, 1) := by decide +kernel
theorem dX9_pairs_37 : decode cX9_pairs 37 = .ok (.iload 5, 2) := by decide +kernel
theorem dX9_pairs_39 : decode cX9_pairs 39 = .ok (.invokevirtual 25, 3) := by decide +kernel
theorem dX9_pairs_42 : decode cX9_pairs 42 = .ok (.iconst 0, 1) := by decide +kernel
theorem dX9_pairs_43 : decode cX9_pairs 43 = .ok (.invokevirtual 33, 3) := by decide +kernel
theorem dX9_pairs_46 : decode cX9_pairs 46 = .ok (.ifCond .ne 6, 3) := by decide +kernel
theorem dX9_pairs_49 : decode cX9_pairs 49 = .ok (.iinc 3 1, 3) := by decide +kernel
theorem dX9_pairs_52 : decode cX9_pairs 52 = .ok (.iinc 5 1, 3) := by decide +kernel
theorem dX9_pairs_55 : decode cX9_pairs 55 = .ok (.goto (-35), 3) := by decide +kernel
theorem dX9_pairs_58 : decode cX9_pairs 58 = .ok (.iinc 4 1, 3) := by decide +kernel
theorem dX9_pairs_61 : decode cX9_pairs 61 = .ok (.goto (-56), 3) := by decide +kernel
theorem dX9_pairs_64 : decode cX9_pairs 64 = .ok (.iload_n 3, 1) := by decide +kernel
theorem dX9_pairs_65 : decode cX9_pairs 65 = .ok (.ireturn, 1) := by decide +kernel
set_option maxHeartbeats 4000000 in
set_option maxRecDepth 100000 in
theorem kX9_pairs (l : Launch) (z : Nat) (D : va_G) (cA : Nat → ClassId) (a0 : Nat) (a1 : Nat) (a2 : Nat) (M : Mem) (K : Int32 → Prop) (h : PX9_pairs a0 a1 a2 M K) : Met l yX9_pairs (.code yX9_pairs cX9_pairs 6 (some .int) :: gtbl) ({ frames := 3, cells := 0, slots := 0, locals := 71 } : Room) (va_Pc [.ref a0, .ref a1, .ref a2] (xB z D cA M)) (va_Qi (fun r M1 => M1 = M ∧ K r) (xWd z D cA) (xA z)) 0 0 (xA z) := by
  refine x_met (by decide +kernel) (Nat.le_of_ble_eq_true rfl) (L0 := [(0, .ref a0), (1, .ref a1), (2, .ref a2)]) rfl ?_
  intro p e s m args below meth c E hr hlk hnm
  have E : xE RX9 cX9_pairs 6 D cA p s m args c := E
  replace h := h.2
  refine x_iconst (v := (J 0)) E dX9_pairs_0 (by decide) ?_
  refine x_istore_n (L' := [(3, .int (J 0)), (0, .ref a0), (1, .ref a1), (2, .ref a2)]) E dX9_pairs_1 rfl (by decide) rfl ?_
  refine x_iconst (v := (J 0)) E dX9_pairs_2 (by decide) ?_
  refine x_istore (L' := [(4, .int (J 0)), (3, .int (J 0)), (0, .ref a0), (1, .ref a1), (2, .ref a2)]) E dX9_pairs_3 (by decide) rfl ?_
  refine x_sub (L' := [(1, .ref a1), (2, .ref a2), (3, .int (J 0)), (4, .int (J 0))]) [3, 4, 1, 0] rfl ?_
  refine lp_sound (T := fun sv => xG p l e ({ frames := 3, cells := 0, slots := 0, locals := 71 } : Room) s m args below meth c (MQ below (va_Qi (fun r M1 => M1 = M ∧ K r) (xWd z D cA) (xA z)) args s 0 0 (xA z)) 6 z D cA M (0) (0) 5 [(1, .ref a1), (2, .ref a2), (3, .int sv.1), (4, .int sv.2)] []) ?_ ((J 0), (J 0)) h
  clear h
  intro kc5 hk5 sv h
  obtain ⟨x3, x4⟩ := sv
  replace h : CX9_pairs_5 K M a1 a2 kc5 x3 x4 := h
  try dsimp only
  refine x_iload E dX9_pairs_5 3 rfl ?_
  refine x_aload_n E dX9_pairs_7 rfl 0 rfl ?_
  refine x_callVi (T := TX6) (N := 3) (t := 7) (As := []) E mlX9_19 inX6_size seX6_size rfl ⟨by decide, by decide⟩ (tX6_size h) (kX6_size l z D cA a1 M _ h) rfl ⟨rfl, rfl⟩ ⟨Nat.le_of_ble_eq_true rfl, Nat.le_of_ble_eq_true rfl⟩ ⟨(Nat.le_of_ble_eq_true rfl), (Nat.le_of_ble_eq_true rfl)⟩ (Nat.le_of_ble_eq_true rfl) rfl dX9_pairs_8 (x_pure (fun r1 h => ?_))
  refine x_icmp_ge (tgt := 64) E dX9_pairs_11 (by decide) (fun c3 => ?_) (fun c3 => ?_)
  · replace h := xbr_t h c3
    clear c3
    refine x_iload_n E dX9_pairs_64 rfl 2 rfl ?_
    exact x_iret E hr hlk dX9_pairs_65 ⟨rfl, h⟩
  · replace h := xbr_f h c3
    clear c3
    refine x_iload E dX9_pairs_14 3 rfl ?_
    refine x_iconst (v := (J 1)) E dX9_pairs_16 (by decide) ?_
    refine x_iadd E dX9_pairs_17 ?_
    obtain ⟨y4, ey4, h⟩ := h
    refine x_top (v := .int y4) (congrArg _ ey4) ?_
    clear ey4
    refine x_istore (L' := [(5, .int y4), (1, .ref a1), (2, .ref a2), (3, .int x3), (4, .int x4)]) E dX9_pairs_18 (by decide) rfl ?_
    refine x_sub (L' := [(1, .ref a1), (2, .ref a2), (3, .int x3), (4, .int x4), (5, .int y4)]) [1, 2, 3, 4, 0] rfl ?_
    refine lp_sound (T := fun sv => xG p l e ({ frames := 3, cells := 0, slots := 0, locals := 71 } : Room) s m args below meth c (MQ below (va_Qi (fun r M1 => M1 = M ∧ K r) (xWd z D cA) (xA z)) args s 0 0 (xA z)) 6 z D cA M (0) (0) 20 [(1, .ref a1), (2, .ref a2), (3, .int sv.1), (4, .int x4), (5, .int sv.2)] []) ?_ (x3, y4) h
    clear h
    intro kc20 hk20 sv h
    obtain ⟨x3, x5⟩ := sv
    replace h : CX9_pairs_20 K kc5 M a1 a2 x4 kc20 x3 x5 := h
    try dsimp only
    refine x_iload E dX9_pairs_20 4 rfl ?_
    refine x_aload_n E dX9_pairs_22 rfl 0 rfl ?_
    refine x_callVi (T := TX6) (N := 3) (t := 7) (As := []) E mlX9_19 inX6_size seX6_size rfl ⟨by decide, by decide⟩ (tX6_size h) (kX6_size l z D cA a1 M _ h) rfl ⟨rfl, rfl⟩ ⟨Nat.le_of_ble_eq_true rfl, Nat.le_of_ble_eq_true rfl⟩ ⟨(Nat.le_of_ble_eq_true rfl), (Nat.le_of_ble_eq_true rfl)⟩ (Nat.le_of_ble_eq_true rfl) rfl dX9_pairs_23 (x_pure (fun r5 h => ?_))
    refine x_icmp_ge (tgt := 58) E dX9_pairs_26 (by decide) (fun c7 => ?_) (fun c7 => ?_)
    · replace h := xbr_t h c7
      clear c7
      refine x_iinc (v := (x4 + (J 1))) (L' := [(4, .int (x4 + (J 1))), (1, .ref a1), (2, .ref a2), (3, .int x3), (5, .int x5)]) E dX9_pairs_58 3 rfl rfl (by decide) rfl ?_
      refine x_goto (tgt := 5) E dX9_pairs_61 (by decide) ?_
      refine x_sub (L' := [(1, .ref a1), (2, .ref a2), (3, .int x3), (4, .int (x4 + (J 1)))]) [1, 2, 3, 0] rfl ?_
      exact hk5 (x3, (x4 + (J 1))) h
    · replace h := xbr_f h c7
      clear c7
      refine x_aload_n E dX9_pairs_29 rfl 1 rfl ?_
      refine x_aload_n E dX9_pairs_30 rfl 0 rfl ?_
      refine x_iload E dX9_pairs_31 3 rfl ?_
      refine x_callVi (T := TX6) (N := 3) (t := 7) (As := [.int x4]) E mlX9_25 inX6_bookAt seX6_bookAt rfl ⟨by decide, by decide⟩ (tX6_bookAt h) (kX6_bookAt l z D cA a1 x4 M _ h) rfl ⟨rfl, rfl⟩ ⟨Nat.le_of_ble_eq_true rfl, Nat.le_of_ble_eq_true rfl⟩ ⟨(Nat.le_of_ble_eq_true rfl), (Nat.le_of_ble_eq_true rfl)⟩ (Nat.le_of_ble_eq_true rfl) rfl dX9_pairs_33 (x_pure (fun r8 h => ?_))
      refine x_aload_n E dX9_pairs_36 rfl 0 rfl ?_
      refine x_iload E dX9_pairs_37 4 rfl ?_
      refine x_callVi (T := TX6) (N := 3) (t := 7) (As := [.int x5]) E mlX9_25 inX6_bookAt seX6_bookAt rfl ⟨by decide, by decide⟩ (tX6_bookAt h) (kX6_bookAt l z D cA a1 x5 M _ h) rfl ⟨rfl, rfl⟩ ⟨Nat.le_of_ble_eq_true rfl, Nat.le_of_ble_eq_true rfl⟩ ⟨(Nat.le_of_ble_eq_true rfl), (Nat.le_of_ble_eq_true rfl)⟩ (Nat.le_of_ble_eq_true rfl) rfl dX9_pairs_39 (x_pure (fun r10 h => ?_))
      refine x_iconst (v := (J 0)) E dX9_pairs_42 (by decide) ?_
      refine x_callVi (T := TX2) (N := 4) (t := 3) (As := [.int r8, .int r10, .int (J 0)]) E mlX9_33 inX2_isAhead seX2_isAhead rfl ⟨by decide, by decide⟩ (tX2_isAhead h) (kX2_isAhead l z D cA a2 r8 r10 (J 0) M _ h) rfl ⟨rfl, rfl⟩ ⟨Nat.le_of_ble_eq_true rfl, Nat.le_of_ble_eq_true rfl⟩ ⟨(Nat.le_of_ble_eq_true rfl), (Nat.le_of_ble_eq_true rfl)⟩ (Nat.le_of_ble_eq_true rfl) rfl dX9_pairs_43 (x_pure (fun r12 h => ?_))
      refine x_if_ne (tgt := 52) E dX9_pairs_46 (by decide) (fun c14 => ?_) (fun c14 => ?_)
      · replace h := xbr_f h c14
        clear c14
        refine x_iinc (v := (x5 + (J 1))) (L' := [(5, .int (x5 + (J 1))), (1, .ref a1), (2, .ref a2), (3, .int x3), (4, .int x4)]) E dX9_pairs_52 4 rfl rfl (by decide) rfl ?_
        refine x_goto (tgt := 20) E dX9_pairs_55 (by decide) ?_
        refine x_sub (L' := [(1, .ref a1), (2, .ref a2), (3, .int x3), (4, .int x4), (5, .int (x5 + (J 1)))]) [1, 2, 3, 4, 0] rfl ?_
        exact hk20 (x3, (x5 + (J 1))) h
      · replace h := xbr_t h c14
        clear c14
        refine x_iinc (v := (x3 + (J 1))) (L' := [(3, .int (x3 + (J 1))), (1, .ref a1), (2, .ref a2), (4, .int x4), (5, .int x5)]) E dX9_pairs_49 2 rfl rfl (by decide) rfl ?_
        refine x_iinc (v := (x5 + (J 1))) (L' := [(5, .int (x5 + (J 1))), (3, .int (x3 + (J 1))), (1, .ref a1), (2, .ref a2), (4, .int x4)]) E dX9_pairs_52 4 rfl rfl (by decide) rfl ?_
        refine x_goto (tgt := 20) E dX9_pairs_55 (by decide) ?_
        refine x_sub (L' := [(1, .ref a1), (2, .ref a2), (3, .int (x3 + (J 1))), (4, .int x4), (5, .int (x5 + (J 1)))]) [2, 3, 1, 4, 0] rfl ?_
        exact hk20 ((x3 + (J 1)), (x5 + (J 1))) h
theorem dX9_firstWrong_0 : decode cX9_firstWrong 0 = .ok (.iconst 0, 1) := by decide +kernel
theorem dX9_firstWrong_1 : decode cX9_firstWrong 1 = .ok (.istore_n 3, 1) := by decide +kernel
theorem dX9_firstWrong_2 : decode cX9_firstWrong 2 = .ok (.iload_n 3, 1) := by decide +kernel
theorem dX9_firstWrong_3 : decode cX9_firstWrong 3 = .ok (.iconst 1, 1) := by decide +kernel
theorem dX9_firstWrong_4 : decode cX9_firstWrong 4 = .ok (.iadd, 1) := by decide +kernel
theorem dX9_firstWrong_5 : decode cX9_firstWrong 5 = .ok (.aload_n 1, 1) := by decide +kernel
theorem dX9_firstWrong_6 : decode cX9_firstWrong 6 = .ok (.invokevirtual 19, 3) := by decide +kernel
theorem dX9_firstWrong_9 : decode cX9_firstWrong 9 = .ok (.if_icmp .ge 35, 3) := by decide +kernel
theorem dX9_firstWrong_12 : decode cX9_firstWrong 12 = .ok (.aload_n 2, 1) := by decide +kernel
theorem dX9_firstWrong_13 : decode cX9_firstWrong 13 = .ok (.aload_n 1, 1) := by decide +kernel
theorem dX9_firstWrong_14 : decode cX9_firstWrong 14 = .ok (.iload_n 3, 1) := by decide +kernel
theorem dX9_firstWrong_15 : decode cX9_firstWrong 15 = .ok (.invokevirtual 25, 3) := by decide +kernel
theorem dX9_firstWrong_18 : decode cX9_firstWrong 18 = .ok (.aload_n 1, 1) := by decide +kernel
theorem dX9_firstWrong_19 : decode cX9_firstWrong 19 = .ok (.iload_n 3, 1) := by decide +kernel
theorem dX9_firstWrong_20 : decode cX9_firstWrong 20 = .ok (.iconst 1, 1) := by decide +kernel
theorem dX9_firstWrong_21 : decode cX9_firstWrong 21 = .ok (.iadd, 1) := by decide +kernel
theorem dX9_firstWrong_22 : decode cX9_firstWrong 22 = .ok (.invokevirtual 25, 3) := by decide +kernel
theorem dX9_firstWrong_25 : decode cX9_firstWrong 25 = .ok (.iconst 0, 1) := by decide +kernel
theorem dX9_firstWrong_26 : decode cX9_firstWrong 26 = .ok (.invokevirtual 33, 3) := by decide +kernel
theorem dX9_firstWrong_29 : decode cX9_firstWrong 29 = .ok (.ifCond .ne 9, 3) := by decide +kernel
theorem dX9_firstWrong_32 : decode cX9_firstWrong 32 = .ok (.aload_n 1, 1) := by decide +kernel
theorem dX9_firstWrong_33 : decode cX9_firstWrong 33 = .ok (.iload_n 3, 1) := by decide +kernel
theorem dX9_firstWrong_34 : decode cX9_firstWrong 34 = .ok (.invokevirtual 25, 3) := by decide +kernel
theorem dX9_firstWrong_37 : decode cX9_firstWrong 37 = .ok (.ireturn, 1) := by decide +kernel
theorem dX9_firstWrong_38 : decode cX9_firstWrong 38 = .ok (.iinc 3 1, 3) := by decide +kernel
theorem dX9_firstWrong_41 : decode cX9_firstWrong 41 = .ok (.goto (-39), 3) := by decide +kernel
theorem dX9_firstWrong_44 : decode cX9_firstWrong 44 = .ok (.iconst (-1), 1) := by decide +kernel
theorem dX9_firstWrong_45 : decode cX9_firstWrong 45 = .ok (.ireturn, 1) := by decide +kernel
set_option maxHeartbeats 4000000 in
set_option maxRecDepth 100000 in
theorem kX9_firstWrong (l : Launch) (z : Nat) (D : va_G) (cA : Nat → ClassId) (a0 : Nat) (a1 : Nat) (a2 : Nat) (M : Mem) (K : Int32 → Prop) (h : PX9_firstWrong a0 a1 a2 M K) : Met l yX9_firstWrong (.code yX9_firstWrong cX9_firstWrong 4 (some .int) :: gtbl) ({ frames := 3, cells := 0, slots := 0, locals := 71 } : Room) (va_Pc [.ref a0, .ref a1, .ref a2] (xB z D cA M)) (va_Qi (fun r M1 => M1 = M ∧ K r) (xWd z D cA) (xA z)) 0 0 (xA z) := by
  refine x_met (by decide +kernel) (Nat.le_of_ble_eq_true rfl) (L0 := [(0, .ref a0), (1, .ref a1), (2, .ref a2)]) rfl ?_
  intro p e s m args below meth c E hr hlk hnm
  have E : xE RX9 cX9_firstWrong 4 D cA p s m args c := E
  replace h := h.2
  refine x_iconst (v := (J 0)) E dX9_firstWrong_0 (by decide) ?_
  refine x_istore_n (L' := [(3, .int (J 0)), (0, .ref a0), (1, .ref a1), (2, .ref a2)]) E dX9_firstWrong_1 rfl (by decide) rfl ?_
  refine x_sub (L' := [(1, .ref a1), (2, .ref a2), (3, .int (J 0))]) [2, 3, 0] rfl ?_
  refine lp_sound (T := fun sv => xG p l e ({ frames := 3, cells := 0, slots := 0, locals := 71 } : Room) s m args below meth c (MQ below (va_Qi (fun r M1 => M1 = M ∧ K r) (xWd z D cA) (xA z)) args s 0 0 (xA z)) 4 z D cA M (0) (0) 2 [(1, .ref a1), (2, .ref a2), (3, .int sv)] []) ?_ (J 0) h
  clear h
  intro kc2 hk2 sv h
  obtain ⟨x3, esv⟩ : ∃ y, y = sv := ⟨_, rfl⟩
  subst esv
  replace h : CX9_firstWrong_2 K M a1 a2 kc2 x3 := h
  try dsimp only
  refine x_iload_n E dX9_firstWrong_2 rfl 2 rfl ?_
  refine x_iconst (v := (J 1)) E dX9_firstWrong_3 (by decide) ?_
  refine x_iadd E dX9_firstWrong_4 ?_
  refine x_aload_n E dX9_firstWrong_5 rfl 0 rfl ?_
  refine x_callVi (T := TX6) (N := 3) (t := 7) (As := []) E mlX9_19 inX6_size seX6_size rfl ⟨by decide, by decide⟩ (tX6_size h) (kX6_size l z D cA a1 M _ h) rfl ⟨rfl, rfl⟩ ⟨Nat.le_of_ble_eq_true rfl, Nat.le_of_ble_eq_true rfl⟩ ⟨(Nat.le_of_ble_eq_true rfl), (Nat.le_of_ble_eq_true rfl)⟩ (Nat.le_of_ble_eq_true rfl) rfl dX9_firstWrong_6 (x_pure (fun r1 h => ?_))
  refine x_icmp_ge (tgt := 44) E dX9_firstWrong_9 (by decide) (fun c3 => ?_) (fun c3 => ?_)
  · replace h := xbr_t h c3
    clear c3
    refine x_iconst (v := (J (-1))) E dX9_firstWrong_44 (by decide) ?_
    exact x_iret E hr hlk dX9_firstWrong_45 ⟨rfl, h⟩
  · replace h := xbr_f h c3
    clear c3
    refine x_aload_n E dX9_firstWrong_12 rfl 1 rfl ?_
    refine x_aload_n E dX9_firstWrong_13 rfl 0 rfl ?_
    refine x_iload_n E dX9_firstWrong_14 rfl 2 rfl ?_
    refine x_callVi (T := TX6) (N := 3) (t := 7) (As := [.int x3]) E mlX9_25 inX6_bookAt seX6_bookAt rfl ⟨by decide, by decide⟩ (tX6_bookAt h) (kX6_bookAt l z D cA a1 x3 M _ h) rfl ⟨rfl, rfl⟩ ⟨Nat.le_of_ble_eq_true rfl, Nat.le_of_ble_eq_true rfl⟩ ⟨(Nat.le_of_ble_eq_true rfl), (Nat.le_of_ble_eq_true rfl)⟩ (Nat.le_of_ble_eq_true rfl) rfl dX9_firstWrong_15 (x_pure (fun r4 h => ?_))
    refine x_aload_n E dX9_firstWrong_18 rfl 0 rfl ?_
    refine x_iload_n E dX9_firstWrong_19 rfl 2 rfl ?_
    refine x_iconst (v := (J 1)) E dX9_firstWrong_20 (by decide) ?_
    refine x_iadd E dX9_firstWrong_21 ?_
    refine x_callVi (T := TX6) (N := 3) (t := 7) (As := [.int (x3 + (J 1))]) E mlX9_25 inX6_bookAt seX6_bookAt rfl ⟨by decide, by decide⟩ (tX6_bookAt h) (kX6_bookAt l z D cA a1 (x3 + (J 1)) M _ h) rfl ⟨rfl, rfl⟩ ⟨Nat.le_of_ble_eq_true rfl, Nat.le_of_ble_eq_true rfl⟩ ⟨(Nat.le_of_ble_eq_true rfl), (Nat.le_of_ble_eq_true rfl)⟩ (Nat.le_of_ble_eq_true rfl) rfl dX9_firstWrong_22 (x_pure (fun r6 h => ?_))
    refine x_iconst (v := (J 0)) E dX9_firstWrong_25 (by decide) ?_
    refine x_callVi (T := TX2) (N := 4) (t := 3) (As := [.int r4, .int r6, .int (J 0)]) E mlX9_33 inX2_isAhead seX2_isAhead rfl ⟨by decide, by decide⟩ (tX2_isAhead h) (kX2_isAhead l z D cA a2 r4 r6 (J 0) M _ h) rfl ⟨rfl, rfl⟩ ⟨Nat.le_of_ble_eq_true rfl, Nat.le_of_ble_eq_true rfl⟩ ⟨(Nat.le_of_ble_eq_true rfl), (Nat.le_of_ble_eq_true rfl)⟩ (Nat.le_of_ble_eq_true rfl) rfl dX9_firstWrong_26 (x_pure (fun r8 h => ?_))
    refine x_if_ne (tgt := 38) E dX9_firstWrong_29 (by decide) (fun c10 => ?_) (fun c10 => ?_)
    · replace h := xbr_f h c10
      clear c10
      refine x_iinc (v := (x3 + (J 1))) (L' := [(3, .int (x3 + (J 1))), (1, .ref a1), (2, .ref a2)]) E dX9_firstWrong_38 2 rfl rfl (by decide) rfl ?_
      refine x_goto (tgt := 2) E dX9_firstWrong_41 (by decide) ?_
      refine x_sub (L' := [(1, .ref a1), (2, .ref a2), (3, .int (x3 + (J 1)))]) [1, 2, 0] rfl ?_
      exact hk2 (x3 + (J 1)) h
    · replace h := xbr_t h c10
      clear c10
      refine x_aload_n E dX9_firstWrong_32 rfl 0 rfl ?_
      refine x_iload_n E dX9_firstWrong_33 rfl 2 rfl ?_
      refine x_callVi (T := TX6) (N := 3) (t := 7) (As := [.int x3]) E mlX9_25 inX6_bookAt seX6_bookAt rfl ⟨by decide, by decide⟩ (tX6_bookAt h) (kX6_bookAt l z D cA a1 x3 M _ h) rfl ⟨rfl, rfl⟩ ⟨Nat.le_of_ble_eq_true rfl, Nat.le_of_ble_eq_true rfl⟩ ⟨(Nat.le_of_ble_eq_true rfl), (Nat.le_of_ble_eq_true rfl)⟩ (Nat.le_of_ble_eq_true rfl) rfl dX9_firstWrong_34 (x_pure (fun r11 h => ?_))
      exact x_iret E hr hlk dX9_firstWrong_37 ⟨rfl, h⟩
