/-! contracts (by program) -/
theorem dX1_init_0 : decode cX1_init 0 = .ok (.aload_n 0, 1) := by decide +kernel
theorem dX1_init_1 : decode cX1_init 1 = .ok (.invokespecial 3, 3) := by decide +kernel
theorem dX1_init_4 : decode cX1_init 4 = .ok (.aload_n 0, 1) := by decide +kernel
theorem dX1_init_5 : decode cX1_init 5 = .ok (.iconst 0, 1) := by decide +kernel
theorem dX1_init_6 : decode cX1_init 6 = .ok (.iload_n 1, 1) := by decide +kernel
theorem dX1_init_7 : decode cX1_init 7 = .ok (.invokestatic 9, 3) := by decide +kernel
theorem dX1_init_10 : decode cX1_init 10 = .ok (.newarray .int, 2) := by decide +kernel
theorem dX1_init_12 : decode cX1_init 12 = .ok (.putfield 15, 3) := by decide +kernel
theorem dX1_init_15 : decode cX1_init 15 = .ok (.aload_n 0, 1) := by decide +kernel
theorem dX1_init_16 : decode cX1_init 16 = .ok (.iconst 0, 1) := by decide +kernel
theorem dX1_init_17 : decode cX1_init 17 = .ok (.putfield 21, 3) := by decide +kernel
theorem dX1_init_20 : decode cX1_init 20 = .ok (.return_, 1) := by decide +kernel
set_option maxHeartbeats 4000000 in
set_option maxRecDepth 100000 in
theorem kX1_init (l : Launch) (z : Nat) (D : va_G) (cA : Nat → ClassId) (a0 : Nat) (x1 : Int32) (M : Mem) (K : Mem → Prop) (h : PX1_init a0 x1 M K) : Met l yX1_init (.code yX1_init cX1_init 2 none :: gtbl) ({ frames := 1, cells := 1, slots := 650, locals := 21 } : Room) (va_Pc [.ref a0, .int x1] (xB z D cA M)) (va_Qv K (xWd z D cA) (xA z)) 1 650 (xA z) := by
  refine x_met (by decide +kernel) (Nat.le_of_ble_eq_true rfl) (L0 := [(0, .ref a0), (1, .int x1)]) rfl ?_
  intro p e s m args below meth c E hr hlk hnm
  have E : xE RX1 cX1_init 2 D cA p s m args c := E
  replace h := h.2
  refine x_aload_n E dX1_init_0 rfl 0 rfl ?_
  refine x_objInit E (gw 28 (by decide +kernel) rfl) (gw 21 (by decide +kernel) rfl) (gw 22 (by decide +kernel) rfl) dX1_init_1 (Nat.le_of_ble_eq_true rfl) (Nat.le_of_ble_eq_true rfl) ?_
  refine x_aload_n E dX1_init_4 rfl 0 rfl ?_
  refine x_iconst (v := (J 0)) E dX1_init_5 (by decide) ?_
  refine x_iload_n E dX1_init_6 rfl 1 rfl ?_
  refine x_mmax E (gw 29 (by decide +kernel) rfl) (gw 30 (by decide +kernel) rfl) (gw 3 (by decide +kernel) rfl) (gw 31 (by decide +kernel) rfl) dX1_init_7 (Nat.le_of_ble_eq_true rfl) (Nat.le_of_ble_eq_true rfl) (Nat.le_of_ble_eq_true rfl) (Nat.le_of_ble_eq_true rfl) ?_
  obtain ⟨hi, hN, h⟩ := h
  refine x_newa (q := 0) (N := 600) E (ty := .int) rfl rfl (fun _ h => by cases h) (gw 39 (by decide +kernel) rfl) hi hN (Nat.le_of_ble_eq_true rfl) (Nat.le_of_ble_eq_true rfl) (Nat.le_of_ble_eq_true rfl) dX1_init_10 (fun q1 M2 eq1 eM2 => ?_)
  replace h := h q1 M2 eq1 eM2
  clear eq1 eM2 hi hN
  obtain ⟨hT, h⟩ := h
  refine x_putF E flX1_15 (gw 32 (by decide +kernel) rfl) ⟨tyX1_ok, nmX1, rfl⟩ rfl hnm (by decide +kernel) rfl rfl dX1_init_12 hT (fun M3 eM3 => ?_)
  replace h := h M3 eM3
  clear hT eM3
  refine x_aload_n E dX1_init_15 rfl 0 rfl ?_
  refine x_iconst (v := (J 0)) E dX1_init_16 (by decide) ?_
  obtain ⟨hT, h⟩ := h
  refine x_put E flX1_21 ⟨tyX1_ok, nmX1, rfl⟩ (by decide +kernel) rfl rfl dX1_init_17 hT (fun M4 eM4 => ?_)
  replace h := h M4 eM4
  clear hT eM4
  refine x_widen (k' := 1) (n' := 650) (Nat.le_of_ble_eq_true rfl) (Nat.le_of_ble_eq_true rfl) ?_
  exact x_vret E hr hlk dX1_init_20 h
theorem dX0_init_0 : decode cX0_init 0 = .ok (.aload_n 0, 1) := by decide +kernel
theorem dX0_init_1 : decode cX0_init 1 = .ok (.invokespecial 3, 3) := by decide +kernel
theorem dX0_init_4 : decode cX0_init 4 = .ok (.aload_n 0, 1) := by decide +kernel
theorem dX0_init_5 : decode cX0_init 5 = .ok (.new 9, 3) := by decide +kernel
theorem dX0_init_8 : decode cX0_init 8 = .ok (.dup, 1) := by decide +kernel
theorem dX0_init_9 : decode cX0_init 9 = .ok (.bipush 23, 2) := by decide +kernel
theorem dX0_init_11 : decode cX0_init 11 = .ok (.invokespecial 11, 3) := by decide +kernel
theorem dX0_init_14 : decode cX0_init 14 = .ok (.putfield 14, 3) := by decide +kernel
theorem dX0_init_17 : decode cX0_init 17 = .ok (.return_, 1) := by decide +kernel
set_option maxHeartbeats 4000000 in
set_option maxRecDepth 100000 in
theorem kX0_init (l : Launch) (z : Nat) (D : va_G) (cA : Nat → ClassId) (a0 : Nat) (M : Mem) (K : Mem → Prop) (h : PX0_init a0 M K) : Met l yX0_init (.code yX0_init cX0_init 1 none :: gtbl) ({ frames := 2, cells := 2, slots := 652, locals := 42 } : Room) (va_Pc [.ref a0] (xB z D cA M)) (va_Qv K (xWd z D cA) (xA z)) 2 652 (xA z) := by
  refine x_met (by decide +kernel) (Nat.le_of_ble_eq_true rfl) (L0 := [(0, .ref a0)]) rfl ?_
  intro p e s m args below meth c E hr hlk hnm
  have E : xE RX0 cX0_init 1 D cA p s m args c := E
  replace h := h.2
  refine x_aload_n E dX0_init_0 rfl 0 rfl ?_
  refine x_objInit E (gw 52 (by decide +kernel) rfl) (gw 21 (by decide +kernel) rfl) (gw 22 (by decide +kernel) rfl) dX0_init_1 (Nat.le_of_ble_eq_true rfl) (Nat.le_of_ble_eq_true rfl) ?_
  refine x_aload_n E dX0_init_4 rfl 0 rfl ?_
  refine x_new (ty := tyX1) E (C := RX1) (T := TX1) (N := 2) (t := 2) rfl ⟨by decide, by decide⟩ uiX1 tyX1_ok (gw 53 (by decide +kernel) rfl) (gw 24 (by decide +kernel) rfl) (gw 2 (by decide +kernel) rfl) (Nat.le_of_ble_eq_true rfl) (Nat.le_of_ble_eq_true rfl) dX0_init_5 (fun q1 M2 eq1 eM2 => ?_)
  replace h := h q1 M2 eq1 eM2
  clear eq1 eM2
  refine x_dup E dX0_init_8 rfl ?_
  refine x_bipush (v := (J 23)) E dX0_init_9 (by decide) ?_
  refine x_callI (As := [.int (J 23)]) E mlX0_11 inX1_init rfl (kX1_init l z D cA q1 (J 23) M2 _ h) rfl ⟨rfl, rfl⟩ ⟨Nat.le_of_ble_eq_true rfl, Nat.le_of_ble_eq_true rfl⟩ ⟨(Nat.le_of_ble_eq_true rfl), (Nat.le_of_ble_eq_true rfl)⟩ (Nat.le_of_ble_eq_true rfl) rfl dX0_init_11 (fun M4 h => ?_)
  obtain ⟨hT, h⟩ := h
  refine x_putF E flX0_14 (gw 55 (by decide +kernel) rfl) ⟨tyX0_ok, nmX0, rfl⟩ rfl hnm (by decide +kernel) rfl rfl dX0_init_14 hT (fun M5 eM5 => ?_)
  replace h := h M5 eM5
  clear hT eM5
  refine x_widen (k' := 2) (n' := 652) (Nat.le_of_ble_eq_true rfl) (Nat.le_of_ble_eq_true rfl) ?_
  exact x_vret E hr hlk dX0_init_17 h
theorem dX1_clear_0 : decode cX1_clear 0 = .ok (.aload_n 0, 1) := by decide +kernel
theorem dX1_clear_1 : decode cX1_clear 1 = .ok (.iconst 0, 1) := by decide +kernel
theorem dX1_clear_2 : decode cX1_clear 2 = .ok (.putfield 21, 3) := by decide +kernel
theorem dX1_clear_5 : decode cX1_clear 5 = .ok (.return_, 1) := by decide +kernel
set_option maxHeartbeats 4000000 in
set_option maxRecDepth 100000 in
theorem kX1_clear (l : Launch) (z : Nat) (D : va_G) (cA : Nat → ClassId) (a0 : Nat) (M : Mem) (K : Mem → Prop) (h : PX1_clear a0 M K) : Met l yX1_clear (.code yX1_clear cX1_clear 1 none :: gtbl) ({ frames := 0, cells := 0, slots := 0, locals := 0 } : Room) (va_Pc [.ref a0] (xB z D cA M)) (va_Qv K (xWd z D cA) (xA z)) 0 0 (xA z) := by
  refine x_met (by decide +kernel) (Nat.le_of_ble_eq_true rfl) (L0 := [(0, .ref a0)]) rfl ?_
  intro p e s m args below meth c E hr hlk hnm
  have E : xE RX1 cX1_clear 1 D cA p s m args c := E
  replace h := h.2
  refine x_aload_n E dX1_clear_0 rfl 0 rfl ?_
  refine x_iconst (v := (J 0)) E dX1_clear_1 (by decide) ?_
  obtain ⟨hT, h⟩ := h
  refine x_put E flX1_21 ⟨tyX1_ok, nmX1, rfl⟩ (by decide +kernel) rfl rfl dX1_clear_2 hT (fun M1 eM1 => ?_)
  replace h := h M1 eM1
  clear hT eM1
  exact x_vret E hr hlk dX1_clear_5 h
theorem dX0_clear_0 : decode cX0_clear 0 = .ok (.aload_n 0, 1) := by decide +kernel
theorem dX0_clear_1 : decode cX0_clear 1 = .ok (.getfield 14, 3) := by decide +kernel
theorem dX0_clear_4 : decode cX0_clear 4 = .ok (.invokevirtual 20, 3) := by decide +kernel
theorem dX0_clear_7 : decode cX0_clear 7 = .ok (.aload_n 0, 1) := by decide +kernel
theorem dX0_clear_8 : decode cX0_clear 8 = .ok (.iconst 0, 1) := by decide +kernel
theorem dX0_clear_9 : decode cX0_clear 9 = .ok (.putfield 23, 3) := by decide +kernel
theorem dX0_clear_12 : decode cX0_clear 12 = .ok (.aload_n 0, 1) := by decide +kernel
theorem dX0_clear_13 : decode cX0_clear 13 = .ok (.iconst 0, 1) := by decide +kernel
theorem dX0_clear_14 : decode cX0_clear 14 = .ok (.putfield 27, 3) := by decide +kernel
theorem dX0_clear_17 : decode cX0_clear 17 = .ok (.aload_n 0, 1) := by decide +kernel
theorem dX0_clear_18 : decode cX0_clear 18 = .ok (.iconst 0, 1) := by decide +kernel
theorem dX0_clear_19 : decode cX0_clear 19 = .ok (.putfield 30, 3) := by decide +kernel
theorem dX0_clear_22 : decode cX0_clear 22 = .ok (.aload_n 0, 1) := by decide +kernel
theorem dX0_clear_23 : decode cX0_clear 23 = .ok (.iconst 0, 1) := by decide +kernel
theorem dX0_clear_24 : decode cX0_clear 24 = .ok (.putfield 33, 3) := by decide +kernel
theorem dX0_clear_27 : decode cX0_clear 27 = .ok (.aload_n 0, 1) := by decide +kernel
theorem dX0_clear_28 : decode cX0_clear 28 = .ok (.iconst 0, 1) := by decide +kernel
theorem dX0_clear_29 : decode cX0_clear 29 = .ok (.putfield 36, 3) := by decide +kernel
theorem dX0_clear_32 : decode cX0_clear 32 = .ok (.aload_n 0, 1) := by decide +kernel
theorem dX0_clear_33 : decode cX0_clear 33 = .ok (.iconst 0, 1) := by decide +kernel
theorem dX0_clear_34 : decode cX0_clear 34 = .ok (.putfield 39, 3) := by decide +kernel
theorem dX0_clear_37 : decode cX0_clear 37 = .ok (.aload_n 0, 1) := by decide +kernel
theorem dX0_clear_38 : decode cX0_clear 38 = .ok (.iconst 0, 1) := by decide +kernel
theorem dX0_clear_39 : decode cX0_clear 39 = .ok (.putfield 42, 3) := by decide +kernel
theorem dX0_clear_42 : decode cX0_clear 42 = .ok (.aload_n 0, 1) := by decide +kernel
theorem dX0_clear_43 : decode cX0_clear 43 = .ok (.iconst 0, 1) := by decide +kernel
theorem dX0_clear_44 : decode cX0_clear 44 = .ok (.putfield 45, 3) := by decide +kernel
theorem dX0_clear_47 : decode cX0_clear 47 = .ok (.aload_n 0, 1) := by decide +kernel
theorem dX0_clear_48 : decode cX0_clear 48 = .ok (.iconst 0, 1) := by decide +kernel
theorem dX0_clear_49 : decode cX0_clear 49 = .ok (.putfield 48, 3) := by decide +kernel
theorem dX0_clear_52 : decode cX0_clear 52 = .ok (.aload_n 0, 1) := by decide +kernel
theorem dX0_clear_53 : decode cX0_clear 53 = .ok (.iconst (-1), 1) := by decide +kernel
theorem dX0_clear_54 : decode cX0_clear 54 = .ok (.putfield 51, 3) := by decide +kernel
theorem dX0_clear_57 : decode cX0_clear 57 = .ok (.aload_n 0, 1) := by decide +kernel
theorem dX0_clear_58 : decode cX0_clear 58 = .ok (.iconst 2, 1) := by decide +kernel
theorem dX0_clear_59 : decode cX0_clear 59 = .ok (.putfield 54, 3) := by decide +kernel
theorem dX0_clear_62 : decode cX0_clear 62 = .ok (.return_, 1) := by decide +kernel
set_option maxHeartbeats 4000000 in
set_option maxRecDepth 100000 in
theorem kX0_clear (l : Launch) (z : Nat) (D : va_G) (cA : Nat → ClassId) (a0 : Nat) (M : Mem) (K : Mem → Prop) (h : PX0_clear a0 M K) : Met l yX0_clear (.code yX0_clear cX0_clear 1 none :: gtbl) ({ frames := 1, cells := 0, slots := 0, locals := 20 } : Room) (va_Pc [.ref a0] (xB z D cA M)) (va_Qv K (xWd z D cA) (xA z)) 0 0 (xA z) := by
  refine x_met (by decide +kernel) (Nat.le_of_ble_eq_true rfl) (L0 := [(0, .ref a0)]) rfl ?_
  intro p e s m args below meth c E hr hlk hnm
  have E : xE RX0 cX0_clear 1 D cA p s m args c := E
  replace h := h.2
  refine x_aload_n E dX0_clear_0 rfl 0 rfl ?_
  obtain ⟨hT, q1, hv, h⟩ := h
  refine x_get E flX0_14 dX0_clear_1 hT hv ?_
  clear hT hv
  refine x_callVv (T := TX1) (N := 2) (t := 2) (As := []) E mlX0_20 inX1_clear seX1_clear rfl ⟨by decide, by decide⟩ (tX1_clear h) (kX1_clear l z D cA q1 M _ h) rfl ⟨rfl, rfl⟩ ⟨Nat.le_of_ble_eq_true rfl, Nat.le_of_ble_eq_true rfl⟩ ⟨(Nat.le_of_ble_eq_true rfl), (Nat.le_of_ble_eq_true rfl)⟩ (Nat.le_of_ble_eq_true rfl) rfl dX0_clear_4 (fun M3 h => ?_)
  refine x_aload_n E dX0_clear_7 rfl 0 rfl ?_
  refine x_iconst (v := (J 0)) E dX0_clear_8 (by decide) ?_
  obtain ⟨hT, h⟩ := h
  refine x_put E flX0_23 ⟨tyX0_ok, nmX0, rfl⟩ (by decide +kernel) rfl rfl dX0_clear_9 hT (fun M4 eM4 => ?_)
  replace h := h M4 eM4
  clear hT eM4
  refine x_aload_n E dX0_clear_12 rfl 0 rfl ?_
  refine x_iconst (v := (J 0)) E dX0_clear_13 (by decide) ?_
  obtain ⟨hT, h⟩ := h
  refine x_put E flX0_27 ⟨tyX0_ok, nmX0, rfl⟩ (by decide +kernel) rfl rfl dX0_clear_14 hT (fun M5 eM5 => ?_)
  replace h := h M5 eM5
  clear hT eM5
  refine x_aload_n E dX0_clear_17 rfl 0 rfl ?_
  refine x_iconst (v := (J 0)) E dX0_clear_18 (by decide) ?_
  obtain ⟨hT, h⟩ := h
  refine x_put E flX0_30 ⟨tyX0_ok, nmX0, rfl⟩ (by decide +kernel) rfl rfl dX0_clear_19 hT (fun M6 eM6 => ?_)
  replace h := h M6 eM6
  clear hT eM6
  refine x_aload_n E dX0_clear_22 rfl 0 rfl ?_
  refine x_iconst (v := (J 0)) E dX0_clear_23 (by decide) ?_
  obtain ⟨hT, h⟩ := h
  refine x_put E flX0_33 ⟨tyX0_ok, nmX0, rfl⟩ (by decide +kernel) rfl rfl dX0_clear_24 hT (fun M7 eM7 => ?_)
  replace h := h M7 eM7
  clear hT eM7
  refine x_aload_n E dX0_clear_27 rfl 0 rfl ?_
  refine x_iconst (v := (J 0)) E dX0_clear_28 (by decide) ?_
  obtain ⟨hT, h⟩ := h
  refine x_put E flX0_36 ⟨tyX0_ok, nmX0, rfl⟩ (by decide +kernel) rfl rfl dX0_clear_29 hT (fun M8 eM8 => ?_)
  replace h := h M8 eM8
  clear hT eM8
  refine x_aload_n E dX0_clear_32 rfl 0 rfl ?_
  refine x_iconst (v := (J 0)) E dX0_clear_33 (by decide) ?_
  obtain ⟨hT, h⟩ := h
  refine x_put E flX0_39 ⟨tyX0_ok, nmX0, rfl⟩ (by decide +kernel) rfl rfl dX0_clear_34 hT (fun M9 eM9 => ?_)
  replace h := h M9 eM9
  clear hT eM9
  refine x_aload_n E dX0_clear_37 rfl 0 rfl ?_
  refine x_iconst (v := (J 0)) E dX0_clear_38 (by decide) ?_
  obtain ⟨hT, h⟩ := h
  refine x_put E flX0_42 ⟨tyX0_ok, nmX0, rfl⟩ (by decide +kernel) rfl rfl dX0_clear_39 hT (fun M10 eM10 => ?_)
  replace h := h M10 eM10
  clear hT eM10
  refine x_aload_n E dX0_clear_42 rfl 0 rfl ?_
  refine x_iconst (v := (J 0)) E dX0_clear_43 (by decide) ?_
  obtain ⟨hT, h⟩ := h
  refine x_put E flX0_45 ⟨tyX0_ok, nmX0, rfl⟩ (by decide +kernel) rfl rfl dX0_clear_44 hT (fun M11 eM11 => ?_)
  replace h := h M11 eM11
  clear hT eM11
  refine x_aload_n E dX0_clear_47 rfl 0 rfl ?_
  refine x_iconst (v := (J 0)) E dX0_clear_48 (by decide) ?_
  obtain ⟨hT, h⟩ := h
  refine x_put E flX0_48 ⟨tyX0_ok, nmX0, rfl⟩ (by decide +kernel) rfl rfl dX0_clear_49 hT (fun M12 eM12 => ?_)
  replace h := h M12 eM12
  clear hT eM12
  refine x_aload_n E dX0_clear_52 rfl 0 rfl ?_
  refine x_iconst (v := (J (-1))) E dX0_clear_53 (by decide) ?_
  obtain ⟨hT, h⟩ := h
  refine x_put E flX0_51 ⟨tyX0_ok, nmX0, rfl⟩ (by decide +kernel) rfl rfl dX0_clear_54 hT (fun M13 eM13 => ?_)
  replace h := h M13 eM13
  clear hT eM13
  refine x_aload_n E dX0_clear_57 rfl 0 rfl ?_
  refine x_iconst (v := (J 2)) E dX0_clear_58 (by decide) ?_
  obtain ⟨hT, h⟩ := h
  refine x_put E flX0_54 ⟨tyX0_ok, nmX0, rfl⟩ (by decide +kernel) rfl rfl dX0_clear_59 hT (fun M14 eM14 => ?_)
  replace h := h M14 eM14
  clear hT eM14
  exact x_vret E hr hlk dX0_clear_62 h
theorem dX0_key_0 : decode cX0_key 0 = .ok (.iload_n 1, 1) := by decide +kernel
theorem dX0_key_1 : decode cX0_key 1 = .ok (.tableswitch 112 0 3 #[31, 53, 70, 87], 31) := by decide +kernel
theorem dX0_key_32 : decode cX0_key 32 = .ok (.aload_n 0, 1) := by decide +kernel
theorem dX0_key_33 : decode cX0_key 33 = .ok (.getfield 23, 3) := by decide +kernel
theorem dX0_key_36 : decode cX0_key 36 = .ok (.bipush 32, 2) := by decide +kernel
theorem dX0_key_38 : decode cX0_key 38 = .ok (.imul, 1) := by decide +kernel
theorem dX0_key_39 : decode cX0_key 39 = .ok (.iload_n 2, 1) := by decide +kernel
theorem dX0_key_40 : decode cX0_key 40 = .ok (.iconst 3, 1) := by decide +kernel
theorem dX0_key_41 : decode cX0_key 41 = .ok (.if_icmp .ne 7, 3) := by decide +kernel
theorem dX0_key_44 : decode cX0_key 44 = .ok (.iconst 0, 1) := by decide +kernel
theorem dX0_key_45 : decode cX0_key 45 = .ok (.goto 7, 3) := by decide +kernel
theorem dX0_key_48 : decode cX0_key 48 = .ok (.aload_n 0, 1) := by decide +kernel
theorem dX0_key_49 : decode cX0_key 49 = .ok (.getfield 27, 3) := by decide +kernel
theorem dX0_key_52 : decode cX0_key 52 = .ok (.iadd, 1) := by decide +kernel
theorem dX0_key_53 : decode cX0_key 53 = .ok (.ireturn, 1) := by decide +kernel
theorem dX0_key_54 : decode cX0_key 54 = .ok (.iload_n 2, 1) := by decide +kernel
theorem dX0_key_55 : decode cX0_key 55 = .ok (.iconst 4, 1) := by decide +kernel
theorem dX0_key_56 : decode cX0_key 56 = .ok (.if_icmp .ne 10, 3) := by decide +kernel
theorem dX0_key_59 : decode cX0_key 59 = .ok (.aload_n 0, 1) := by decide +kernel
theorem dX0_key_60 : decode cX0_key 60 = .ok (.getfield 33, 3) := by decide +kernel
theorem dX0_key_63 : decode cX0_key 63 = .ok (.goto 7, 3) := by decide +kernel
theorem dX0_key_66 : decode cX0_key 66 = .ok (.aload_n 0, 1) := by decide +kernel
theorem dX0_key_67 : decode cX0_key 67 = .ok (.getfield 30, 3) := by decide +kernel
theorem dX0_key_70 : decode cX0_key 70 = .ok (.ireturn, 1) := by decide +kernel
theorem dX0_key_71 : decode cX0_key 71 = .ok (.iload_n 2, 1) := by decide +kernel
theorem dX0_key_72 : decode cX0_key 72 = .ok (.iconst 1, 1) := by decide +kernel
theorem dX0_key_73 : decode cX0_key 73 = .ok (.if_icmp .ne 10, 3) := by decide +kernel
theorem dX0_key_76 : decode cX0_key 76 = .ok (.aload_n 0, 1) := by decide +kernel
theorem dX0_key_77 : decode cX0_key 77 = .ok (.getfield 36, 3) := by decide +kernel
theorem dX0_key_80 : decode cX0_key 80 = .ok (.goto 7, 3) := by decide +kernel
theorem dX0_key_83 : decode cX0_key 83 = .ok (.aload_n 0, 1) := by decide +kernel
theorem dX0_key_84 : decode cX0_key 84 = .ok (.getfield 39, 3) := by decide +kernel
theorem dX0_key_87 : decode cX0_key 87 = .ok (.ireturn, 1) := by decide +kernel
theorem dX0_key_88 : decode cX0_key 88 = .ok (.aload_n 0, 1) := by decide +kernel
theorem dX0_key_89 : decode cX0_key 89 = .ok (.getfield 42, 3) := by decide +kernel
theorem dX0_key_92 : decode cX0_key 92 = .ok (.ldc 61, 2) := by decide +kernel
theorem dX0_key_94 : decode cX0_key 94 = .ok (.imul, 1) := by decide +kernel
theorem dX0_key_95 : decode cX0_key 95 = .ok (.iload_n 2, 1) := by decide +kernel
theorem dX0_key_96 : decode cX0_key 96 = .ok (.iconst 2, 1) := by decide +kernel
theorem dX0_key_97 : decode cX0_key 97 = .ok (.if_icmp .ne 10, 3) := by decide +kernel
theorem dX0_key_100 : decode cX0_key 100 = .ok (.aload_n 0, 1) := by decide +kernel
theorem dX0_key_101 : decode cX0_key 101 = .ok (.getfield 45, 3) := by decide +kernel
theorem dX0_key_104 : decode cX0_key 104 = .ok (.goto 7, 3) := by decide +kernel
theorem dX0_key_107 : decode cX0_key 107 = .ok (.aload_n 0, 1) := by decide +kernel
theorem dX0_key_108 : decode cX0_key 108 = .ok (.getfield 48, 3) := by decide +kernel
theorem dX0_key_111 : decode cX0_key 111 = .ok (.iadd, 1) := by decide +kernel
theorem dX0_key_112 : decode cX0_key 112 = .ok (.ireturn, 1) := by decide +kernel
theorem dX0_key_113 : decode cX0_key 113 = .ok (.aload_n 0, 1) := by decide +kernel
theorem dX0_key_114 : decode cX0_key 114 = .ok (.getfield 51, 3) := by decide +kernel
theorem dX0_key_117 : decode cX0_key 117 = .ok (.ireturn, 1) := by decide +kernel
set_option maxHeartbeats 4000000 in
set_option maxRecDepth 100000 in
theorem kX0_key (l : Launch) (z : Nat) (D : va_G) (cA : Nat → ClassId) (a0 : Nat) (x1 : Int32) (x2 : Int32) (M : Mem) (K : Int32 → Prop) (h : PX0_key a0 x1 x2 M K) : Met l yX0_key (.code yX0_key cX0_key 3 (some .int) :: gtbl) ({ frames := 0, cells := 0, slots := 0, locals := 0 } : Room) (va_Pc [.ref a0, .int x1, .int x2] (xB z D cA M)) (va_Qi (fun r M1 => M1 = M ∧ K r) (xWd z D cA) (xA z)) 0 0 (xA z) := by
  refine x_met (by decide +kernel) (Nat.le_of_ble_eq_true rfl) (L0 := [(0, .ref a0), (1, .int x1), (2, .int x2)]) rfl ?_
  intro p e s m args below meth c E hr hlk hnm
  have E : xE RX0 cX0_key 3 D cA p s m args c := E
  replace h := h.2
  refine x_iload_n E dX0_key_0 rfl 1 rfl ?_
  by_cases c1 : x1 = (J 0)
  · replace h := xbr_t h c1
    refine x_tableIn (off := 31) (tgt := 32) E dX0_key_1 (by rw [c1]; decide) (by rw [c1]; decide) (by rw [c1]; decide) (by decide) ?_
    refine x_aload_n E dX0_key_32 rfl 0 rfl ?_
    obtain ⟨hT, v2, hv, h⟩ := h
    refine x_get E flX0_23 dX0_key_33 hT hv ?_
    clear hT hv
    refine x_bipush (v := (J 32)) E dX0_key_36 (by decide) ?_
    refine x_imul E dX0_key_38 ?_
    refine x_iload_n E dX0_key_39 rfl 2 rfl ?_
    refine x_iconst (v := (J 3)) E dX0_key_40 (by decide) ?_
    refine x_icmp_ne (tgt := 48) E dX0_key_41 (by decide) (fun c3 => ?_) (fun c3 => ?_)
    · replace h := xbr_f h c3
      clear c3
      refine x_aload_n E dX0_key_48 rfl 0 rfl ?_
      obtain ⟨hT, v4, hv, h⟩ := h
      refine x_get E flX0_27 dX0_key_49 hT hv ?_
      clear hT hv
      refine x_iadd E dX0_key_52 ?_
      exact x_iret E hr hlk dX0_key_53 ⟨rfl, h⟩
    · replace h := xbr_t h c3
      clear c3
      refine x_iconst (v := (J 0)) E dX0_key_44 (by decide) ?_
      refine x_goto (tgt := 52) E dX0_key_45 (by decide) ?_
      refine x_iadd E dX0_key_52 ?_
      exact x_iret E hr hlk dX0_key_53 ⟨rfl, h⟩
  replace h := xbr_f h c1
  by_cases c5 : x1 = (J 1)
  · replace h := xbr_t h c5
    refine x_tableIn (off := 53) (tgt := 54) E dX0_key_1 (by rw [c5]; decide) (by rw [c5]; decide) (by rw [c5]; decide) (by decide) ?_
    refine x_iload_n E dX0_key_54 rfl 2 rfl ?_
    refine x_iconst (v := (J 4)) E dX0_key_55 (by decide) ?_
    refine x_icmp_ne (tgt := 66) E dX0_key_56 (by decide) (fun c6 => ?_) (fun c6 => ?_)
    · replace h := xbr_f h c6
      clear c6
      refine x_aload_n E dX0_key_66 rfl 0 rfl ?_
      obtain ⟨hT, v7, hv, h⟩ := h
      refine x_get E flX0_30 dX0_key_67 hT hv ?_
      clear hT hv
      exact x_iret E hr hlk dX0_key_70 ⟨rfl, h⟩
    · replace h := xbr_t h c6
      clear c6
      refine x_aload_n E dX0_key_59 rfl 0 rfl ?_
      obtain ⟨hT, v8, hv, h⟩ := h
      refine x_get E flX0_33 dX0_key_60 hT hv ?_
      clear hT hv
      refine x_goto (tgt := 70) E dX0_key_63 (by decide) ?_
      exact x_iret E hr hlk dX0_key_70 ⟨rfl, h⟩
  replace h := xbr_f h c5
  by_cases c9 : x1 = (J 2)
  · replace h := xbr_t h c9
    refine x_tableIn (off := 70) (tgt := 71) E dX0_key_1 (by rw [c9]; decide) (by rw [c9]; decide) (by rw [c9]; decide) (by decide) ?_
    refine x_iload_n E dX0_key_71 rfl 2 rfl ?_
    refine x_iconst (v := (J 1)) E dX0_key_72 (by decide) ?_
    refine x_icmp_ne (tgt := 83) E dX0_key_73 (by decide) (fun c10 => ?_) (fun c10 => ?_)
    · replace h := xbr_f h c10
      clear c10
      refine x_aload_n E dX0_key_83 rfl 0 rfl ?_
      obtain ⟨hT, v11, hv, h⟩ := h
      refine x_get E flX0_39 dX0_key_84 hT hv ?_
      clear hT hv
      exact x_iret E hr hlk dX0_key_87 ⟨rfl, h⟩
    · replace h := xbr_t h c10
      clear c10
      refine x_aload_n E dX0_key_76 rfl 0 rfl ?_
      obtain ⟨hT, v12, hv, h⟩ := h
      refine x_get E flX0_36 dX0_key_77 hT hv ?_
      clear hT hv
      refine x_goto (tgt := 87) E dX0_key_80 (by decide) ?_
      exact x_iret E hr hlk dX0_key_87 ⟨rfl, h⟩
  replace h := xbr_f h c9
  by_cases c13 : x1 = (J 3)
  · replace h := xbr_t h c13
    refine x_tableIn (off := 87) (tgt := 88) E dX0_key_1 (by rw [c13]; decide) (by rw [c13]; decide) (by rw [c13]; decide) (by decide) ?_
    refine x_aload_n E dX0_key_88 rfl 0 rfl ?_
    obtain ⟨hT, v14, hv, h⟩ := h
    refine x_get E flX0_42 dX0_key_89 hT hv ?_
    clear hT hv
    refine x_ldc (v := (J 65536)) E (gw 424 (by decide +kernel) rfl) dX0_key_92 ?_
    refine x_imul E dX0_key_94 ?_
    refine x_iload_n E dX0_key_95 rfl 2 rfl ?_
    refine x_iconst (v := (J 2)) E dX0_key_96 (by decide) ?_
    refine x_icmp_ne (tgt := 107) E dX0_key_97 (by decide) (fun c15 => ?_) (fun c15 => ?_)
    · replace h := xbr_f h c15
      clear c15
      refine x_aload_n E dX0_key_107 rfl 0 rfl ?_
      obtain ⟨hT, v16, hv, h⟩ := h
      refine x_get E flX0_48 dX0_key_108 hT hv ?_
      clear hT hv
      refine x_iadd E dX0_key_111 ?_
      exact x_iret E hr hlk dX0_key_112 ⟨rfl, h⟩
    · replace h := xbr_t h c15
      clear c15
      refine x_aload_n E dX0_key_100 rfl 0 rfl ?_
      obtain ⟨hT, v17, hv, h⟩ := h
      refine x_get E flX0_45 dX0_key_101 hT hv ?_
      clear hT hv
      refine x_goto (tgt := 111) E dX0_key_104 (by decide) ?_
      refine x_iadd E dX0_key_111 ?_
      exact x_iret E hr hlk dX0_key_112 ⟨rfl, h⟩
  replace h := xbr_f h c13
  have nc1 := lv_neT c1 (a := 0) (by decide)
  have nc5 := lv_neT c5 (a := 1) (by decide)
  have nc9 := lv_neT c9 (a := 2) (by decide)
  have nc13 := lv_neT c13 (a := 3) (by decide)
  refine x_tableOut (tgt := 113) E dX0_key_1 (by omega) (by decide) ?_
  clear c1 c5 c9 c13
  clear nc1 nc5 nc9 nc13
  refine x_aload_n E dX0_key_113 rfl 0 rfl ?_
  obtain ⟨hT, v18, hv, h⟩ := h
  refine x_get E flX0_51 dX0_key_114 hT hv ?_
  clear hT hv
  exact x_iret E hr hlk dX0_key_117 ⟨rfl, h⟩
theorem dX0_compareBy_0 : decode cX0_compareBy 0 = .ok (.iconst 0, 1) := by decide +kernel
theorem dX0_compareBy_1 : decode cX0_compareBy 1 = .ok (.istore_n 3, 1) := by decide +kernel
theorem dX0_compareBy_2 : decode cX0_compareBy 2 = .ok (.iload_n 3, 1) := by decide +kernel
theorem dX0_compareBy_3 : decode cX0_compareBy 3 = .ok (.iconst 5, 1) := by decide +kernel
theorem dX0_compareBy_4 : decode cX0_compareBy 4 = .ok (.if_icmp .ge 45, 3) := by decide +kernel
theorem dX0_compareBy_7 : decode cX0_compareBy 7 = .ok (.aload_n 0, 1) := by decide +kernel
theorem dX0_compareBy_8 : decode cX0_compareBy 8 = .ok (.iload_n 3, 1) := by decide +kernel
theorem dX0_compareBy_9 : decode cX0_compareBy 9 = .ok (.iload_n 2, 1) := by decide +kernel
theorem dX0_compareBy_10 : decode cX0_compareBy 10 = .ok (.invokevirtual 57, 3) := by decide +kernel
theorem dX0_compareBy_13 : decode cX0_compareBy 13 = .ok (.istore 4, 2) := by decide +kernel
theorem dX0_compareBy_15 : decode cX0_compareBy 15 = .ok (.aload_n 1, 1) := by decide +kernel
theorem dX0_compareBy_16 : decode cX0_compareBy 16 = .ok (.iload_n 3, 1) := by decide +kernel
theorem dX0_compareBy_17 : decode cX0_compareBy 17 = .ok (.iload_n 2, 1) := by decide +kernel
theorem dX0_compareBy_18 : decode cX0_compareBy 18 = .ok (.invokevirtual 57, 3) := by decide +kernel
theorem dX0_compareBy_21 : decode cX0_compareBy 21 = .ok (.istore 5, 2) := by decide +kernel
theorem dX0_compareBy_23 : decode cX0_compareBy 23 = .ok (.iload 4, 2) := by decide +kernel
theorem dX0_compareBy_25 : decode cX0_compareBy 25 = .ok (.iload 5, 2) := by decide +kernel
theorem dX0_compareBy_27 : decode cX0_compareBy 27 = .ok (.if_icmp .eq 16, 3) := by decide +kernel
theorem dX0_compareBy_30 : decode cX0_compareBy 30 = .ok (.iload 4, 2) := by decide +kernel
theorem dX0_compareBy_32 : decode cX0_compareBy 32 = .ok (.iload 5, 2) := by decide +kernel
theorem dX0_compareBy_34 : decode cX0_compareBy 34 = .ok (.if_icmp .ge 7, 3) := by decide +kernel
theorem dX0_compareBy_37 : decode cX0_compareBy 37 = .ok (.iconst (-1), 1) := by decide +kernel
theorem dX0_compareBy_38 : decode cX0_compareBy 38 = .ok (.goto 4, 3) := by decide +kernel
theorem dX0_compareBy_41 : decode cX0_compareBy 41 = .ok (.iconst 1, 1) := by decide +kernel
theorem dX0_compareBy_42 : decode cX0_compareBy 42 = .ok (.ireturn, 1) := by decide +kernel
theorem dX0_compareBy_43 : decode cX0_compareBy 43 = .ok (.iinc 3 1, 3) := by decide +kernel
theorem dX0_compareBy_46 : decode cX0_compareBy 46 = .ok (.goto (-44), 3) := by decide +kernel
theorem dX0_compareBy_49 : decode cX0_compareBy 49 = .ok (.iconst 0, 1) := by decide +kernel
theorem dX0_compareBy_50 : decode cX0_compareBy 50 = .ok (.ireturn, 1) := by decide +kernel
set_option maxHeartbeats 4000000 in
set_option maxRecDepth 100000 in
theorem kX0_compareBy (l : Launch) (z : Nat) (D : va_G) (cA : Nat → ClassId) (a0 : Nat) (a1 : Nat) (x2 : Int32) (M : Mem) (K : Int32 → Prop) (h : PX0_compareBy a0 a1 x2 M K) : Met l yX0_compareBy (.code yX0_compareBy cX0_compareBy 6 (some .int) :: gtbl) ({ frames := 1, cells := 0, slots := 0, locals := 22 } : Room) (va_Pc [.ref a0, .ref a1, .int x2] (xB z D cA M)) (va_Qi (fun r M1 => M1 = M ∧ K r) (xWd z D cA) (xA z)) 0 0 (xA z) := by
  refine x_met (by decide +kernel) (Nat.le_of_ble_eq_true rfl) (L0 := [(0, .ref a0), (1, .ref a1), (2, .int x2)]) rfl ?_
  intro p e s m args below meth c E hr hlk hnm
  have E : xE RX0 cX0_compareBy 6 D cA p s m args c := E
  replace h := h.2
  refine x_iconst (v := (J 0)) E dX0_compareBy_0 (by decide) ?_
  refine x_istore_n (L' := [(3, .int (J 0)), (0, .ref a0), (1, .ref a1), (2, .int x2)]) E dX0_compareBy_1 rfl (by decide) rfl ?_
  refine x_sub (L' := [(0, .ref a0), (1, .ref a1), (2, .int x2), (3, .int (J 0))]) [1, 2, 3, 0] rfl ?_
  refine lp_sound (T := fun sv => xG p l e ({ frames := 1, cells := 0, slots := 0, locals := 22 } : Room) s m args below meth c (MQ below (va_Qi (fun r M1 => M1 = M ∧ K r) (xWd z D cA) (xA z)) args s 0 0 (xA z)) 6 z D cA M (0) (0) 2 [(0, .ref a0), (1, .ref a1), (2, .int x2), (3, .int sv)] []) ?_ (J 0) h
  clear h
  intro kc2 hk2 sv h
  obtain ⟨x3, esv⟩ : ∃ y, y = sv := ⟨_, rfl⟩
  subst esv
  replace h : CX0_compareBy_2 K M a0 a1 x2 kc2 x3 := h
  try dsimp only
  refine x_iload_n E dX0_compareBy_2 rfl 3 rfl ?_
  refine x_iconst (v := (J 5)) E dX0_compareBy_3 (by decide) ?_
  refine x_icmp_ge (tgt := 49) E dX0_compareBy_4 (by decide) (fun c1 => ?_) (fun c1 => ?_)
  · replace h := xbr_t h c1
    clear c1
    refine x_iconst (v := (J 0)) E dX0_compareBy_49 (by decide) ?_
    exact x_iret E hr hlk dX0_compareBy_50 ⟨rfl, h⟩
  · replace h := xbr_f h c1
    clear c1
    refine x_aload_n E dX0_compareBy_7 rfl 0 rfl ?_
    refine x_iload_n E dX0_compareBy_8 rfl 3 rfl ?_
    refine x_iload_n E dX0_compareBy_9 rfl 2 rfl ?_
    refine x_callVi (T := TX0) (N := 12) (t := 1) (As := [.int x3, .int x2]) E mlX0_57 inX0_key seX0_key rfl ⟨by decide, by decide⟩ (tX0_key h) (kX0_key l z D cA a0 x3 x2 M _ h) rfl ⟨rfl, rfl⟩ ⟨Nat.le_of_ble_eq_true rfl, Nat.le_of_ble_eq_true rfl⟩ ⟨(Nat.le_of_ble_eq_true rfl), (Nat.le_of_ble_eq_true rfl)⟩ (Nat.le_of_ble_eq_true rfl) rfl dX0_compareBy_10 (x_pure (fun r2 h => ?_))
    refine x_istore (L' := [(4, .int r2), (0, .ref a0), (1, .ref a1), (2, .int x2), (3, .int x3)]) E dX0_compareBy_13 (by decide) rfl ?_
    refine x_aload_n E dX0_compareBy_15 rfl 2 rfl ?_
    refine x_iload_n E dX0_compareBy_16 rfl 4 rfl ?_
    refine x_iload_n E dX0_compareBy_17 rfl 3 rfl ?_
    refine x_callVi (T := TX0) (N := 12) (t := 1) (As := [.int x3, .int x2]) E mlX0_57 inX0_key seX0_key rfl ⟨by decide, by decide⟩ (tX0_key h) (kX0_key l z D cA a1 x3 x2 M _ h) rfl ⟨rfl, rfl⟩ ⟨Nat.le_of_ble_eq_true rfl, Nat.le_of_ble_eq_true rfl⟩ ⟨(Nat.le_of_ble_eq_true rfl), (Nat.le_of_ble_eq_true rfl)⟩ (Nat.le_of_ble_eq_true rfl) rfl dX0_compareBy_18 (x_pure (fun r4 h => ?_))
    refine x_istore (L' := [(5, .int r4), (4, .int r2), (0, .ref a0), (1, .ref a1), (2, .int x2), (3, .int x3)]) E dX0_compareBy_21 (by decide) rfl ?_
    refine x_iload E dX0_compareBy_23 1 rfl ?_
    refine x_iload E dX0_compareBy_25 0 rfl ?_
    refine x_icmp_eq (tgt := 43) E dX0_compareBy_27 (by decide) (fun c6 => ?_) (fun c6 => ?_)
    · replace h := xbr_t h c6
      clear c6
      refine x_iinc (v := (x3 + (J 1))) (L' := [(3, .int (x3 + (J 1))), (5, .int r4), (4, .int r2), (0, .ref a0), (1, .ref a1), (2, .int x2)]) E dX0_compareBy_43 5 rfl rfl (by decide) rfl ?_
      refine x_goto (tgt := 2) E dX0_compareBy_46 (by decide) ?_
      refine x_sub (L' := [(0, .ref a0), (1, .ref a1), (2, .int x2), (3, .int (x3 + (J 1)))]) [3, 4, 5, 0] rfl ?_
      exact hk2 (x3 + (J 1)) h
    · replace h := xbr_f h c6
      clear c6
      refine x_iload E dX0_compareBy_30 1 rfl ?_
      refine x_iload E dX0_compareBy_32 0 rfl ?_
      refine x_icmp_ge (tgt := 41) E dX0_compareBy_34 (by decide) (fun c7 => ?_) (fun c7 => ?_)
      · replace h := xbr_t h c7
        clear c7
        refine x_iconst (v := (J 1)) E dX0_compareBy_41 (by decide) ?_
        exact x_iret E hr hlk dX0_compareBy_42 ⟨rfl, h⟩
      · replace h := xbr_f h c7
        clear c7
        refine x_iconst (v := (J (-1))) E dX0_compareBy_37 (by decide) ?_
        refine x_goto (tgt := 42) E dX0_compareBy_38 (by decide) ?_
        exact x_iret E hr hlk dX0_compareBy_42 ⟨rfl, h⟩
theorem dX1_size_0 : decode cX1_size 0 = .ok (.aload_n 0, 1) := by decide +kernel
theorem dX1_size_1 : decode cX1_size 1 = .ok (.getfield 21, 3) := by decide +kernel
theorem dX1_size_4 : decode cX1_size 4 = .ok (.ireturn, 1) := by decide +kernel
set_option maxHeartbeats 4000000 in
set_option maxRecDepth 100000 in
theorem kX1_size (l : Launch) (z : Nat) (D : va_G) (cA : Nat → ClassId) (a0 : Nat) (M : Mem) (K : Int32 → Prop) (h : PX1_size a0 M K) : Met l yX1_size (.code yX1_size cX1_size 1 (some .int) :: gtbl) ({ frames := 0, cells := 0, slots := 0, locals := 0 } : Room) (va_Pc [.ref a0] (xB z D cA M)) (va_Qi (fun r M1 => M1 = M ∧ K r) (xWd z D cA) (xA z)) 0 0 (xA z) := by
  refine x_met (by decide +kernel) (Nat.le_of_ble_eq_true rfl) (L0 := [(0, .ref a0)]) rfl ?_
  intro p e s m args below meth c E hr hlk hnm
  have E : xE RX1 cX1_size 1 D cA p s m args c := E
  replace h := h.2
  refine x_aload_n E dX1_size_0 rfl 0 rfl ?_
  obtain ⟨hT, v1, hv, h⟩ := h
  refine x_get E flX1_21 dX1_size_1 hT hv ?_
  clear hT hv
  exact x_iret E hr hlk dX1_size_4 ⟨rfl, h⟩
theorem dX1_get_0 : decode cX1_get 0 = .ok (.iload_n 1, 1) := by decide +kernel
theorem dX1_get_1 : decode cX1_get 1 = .ok (.ifCond .lt 29, 3) := by decide +kernel
theorem dX1_get_4 : decode cX1_get 4 = .ok (.iload_n 1, 1) := by decide +kernel
theorem dX1_get_5 : decode cX1_get 5 = .ok (.aload_n 0, 1) := by decide +kernel
theorem dX1_get_6 : decode cX1_get 6 = .ok (.getfield 21, 3) := by decide +kernel
theorem dX1_get_9 : decode cX1_get 9 = .ok (.if_icmp .ge 21, 3) := by decide +kernel
theorem dX1_get_12 : decode cX1_get 12 = .ok (.iload_n 1, 1) := by decide +kernel
theorem dX1_get_13 : decode cX1_get 13 = .ok (.aload_n 0, 1) := by decide +kernel
theorem dX1_get_14 : decode cX1_get 14 = .ok (.getfield 15, 3) := by decide +kernel
theorem dX1_get_17 : decode cX1_get 17 = .ok (.arraylength, 1) := by decide +kernel
theorem dX1_get_18 : decode cX1_get 18 = .ok (.if_icmp .ge 12, 3) := by decide +kernel
theorem dX1_get_21 : decode cX1_get 21 = .ok (.aload_n 0, 1) := by decide +kernel
theorem dX1_get_22 : decode cX1_get 22 = .ok (.getfield 15, 3) := by decide +kernel
theorem dX1_get_25 : decode cX1_get 25 = .ok (.iload_n 1, 1) := by decide +kernel
theorem dX1_get_26 : decode cX1_get 26 = .ok (.iaload, 1) := by decide +kernel
theorem dX1_get_27 : decode cX1_get 27 = .ok (.goto 4, 3) := by decide +kernel
theorem dX1_get_30 : decode cX1_get 30 = .ok (.iconst (-1), 1) := by decide +kernel
theorem dX1_get_31 : decode cX1_get 31 = .ok (.ireturn, 1) := by decide +kernel
set_option maxHeartbeats 4000000 in
set_option maxRecDepth 100000 in
theorem kX1_get (l : Launch) (z : Nat) (D : va_G) (cA : Nat → ClassId) (a0 : Nat) (x1 : Int32) (M : Mem) (K : Int32 → Prop) (h : PX1_get a0 x1 M K) : Met l yX1_get (.code yX1_get cX1_get 2 (some .int) :: gtbl) ({ frames := 0, cells := 0, slots := 0, locals := 0 } : Room) (va_Pc [.ref a0, .int x1] (xB z D cA M)) (va_Qi (fun r M1 => M1 = M ∧ K r) (xWd z D cA) (xA z)) 0 0 (xA z) := by
  refine x_met (by decide +kernel) (Nat.le_of_ble_eq_true rfl) (L0 := [(0, .ref a0), (1, .int x1)]) rfl ?_
  intro p e s m args below meth c E hr hlk hnm
  have E : xE RX1 cX1_get 2 D cA p s m args c := E
  replace h := h.2
  refine x_iload_n E dX1_get_0 rfl 1 rfl ?_
  refine x_if_lt (tgt := 30) E dX1_get_1 (by decide) (fun c1 => ?_) (fun c1 => ?_)
  · replace h := xbr_t h c1
    clear c1
    refine x_iconst (v := (J (-1))) E dX1_get_30 (by decide) ?_
    exact x_iret E hr hlk dX1_get_31 ⟨rfl, h⟩
  · replace h := xbr_f h c1
    clear c1
    refine x_iload_n E dX1_get_4 rfl 1 rfl ?_
    refine x_aload_n E dX1_get_5 rfl 0 rfl ?_
    obtain ⟨hT, v2, hv, h⟩ := h
    refine x_get E flX1_21 dX1_get_6 hT hv ?_
    clear hT hv
    refine x_icmp_ge (tgt := 30) E dX1_get_9 (by decide) (fun c3 => ?_) (fun c3 => ?_)
    · replace h := xbr_t h c3
      clear c3
      refine x_iconst (v := (J (-1))) E dX1_get_30 (by decide) ?_
      exact x_iret E hr hlk dX1_get_31 ⟨rfl, h⟩
    · replace h := xbr_f h c3
      clear c3
      refine x_iload_n E dX1_get_12 rfl 1 rfl ?_
      refine x_aload_n E dX1_get_13 rfl 0 rfl ?_
      obtain ⟨hT, q4, hv, h⟩ := h
      refine x_get E flX1_15 dX1_get_14 hT hv ?_
      clear hT hv
      obtain ⟨hT, h⟩ := h
      refine x_alen (q := 0) E rfl dX1_get_17 hT (fun v5 ev5 => ?_)
      replace h := h v5 ev5
      clear hT ev5
      refine x_icmp_ge (tgt := 30) E dX1_get_18 (by decide) (fun c6 => ?_) (fun c6 => ?_)
      · replace h := xbr_t h c6
        clear c6
        refine x_iconst (v := (J (-1))) E dX1_get_30 (by decide) ?_
        exact x_iret E hr hlk dX1_get_31 ⟨rfl, h⟩
      · replace h := xbr_f h c6
        clear c6
        refine x_aload_n E dX1_get_21 rfl 0 rfl ?_
        obtain ⟨hT, q7, hv, h⟩ := h
        refine x_get E flX1_15 dX1_get_22 hT hv ?_
        clear hT hv
        refine x_iload_n E dX1_get_25 rfl 1 rfl ?_
        obtain ⟨hT, hi, v8, hv, h⟩ := h
        refine x_iald E dX1_get_26 hT hi hv ?_
        clear hT hi hv
        refine x_goto (tgt := 31) E dX1_get_27 (by decide) ?_
        exact x_iret E hr hlk dX1_get_31 ⟨rfl, h⟩
theorem dX1_append_0 : decode cX1_append 0 = .ok (.aload_n 0, 1) := by decide +kernel
theorem dX1_append_1 : decode cX1_append 1 = .ok (.getfield 21, 3) := by decide +kernel
theorem dX1_append_4 : decode cX1_append 4 = .ok (.ifCond .lt 35, 3) := by decide +kernel
theorem dX1_append_7 : decode cX1_append 7 = .ok (.aload_n 0, 1) := by decide +kernel
theorem dX1_append_8 : decode cX1_append 8 = .ok (.getfield 21, 3) := by decide +kernel
theorem dX1_append_11 : decode cX1_append 11 = .ok (.aload_n 0, 1) := by decide +kernel
theorem dX1_append_12 : decode cX1_append 12 = .ok (.getfield 15, 3) := by decide +kernel
theorem dX1_append_15 : decode cX1_append 15 = .ok (.arraylength, 1) := by decide +kernel
theorem dX1_append_16 : decode cX1_append 16 = .ok (.if_icmp .ge 23, 3) := by decide +kernel
theorem dX1_append_19 : decode cX1_append 19 = .ok (.aload_n 0, 1) := by decide +kernel
theorem dX1_append_20 : decode cX1_append 20 = .ok (.getfield 15, 3) := by decide +kernel
theorem dX1_append_23 : decode cX1_append 23 = .ok (.aload_n 0, 1) := by decide +kernel
theorem dX1_append_24 : decode cX1_append 24 = .ok (.getfield 21, 3) := by decide +kernel
theorem dX1_append_27 : decode cX1_append 27 = .ok (.iload_n 1, 1) := by decide +kernel
theorem dX1_append_28 : decode cX1_append 28 = .ok (.iastore, 1) := by decide +kernel
theorem dX1_append_29 : decode cX1_append 29 = .ok (.aload_n 0, 1) := by decide +kernel
theorem dX1_append_30 : decode cX1_append 30 = .ok (.dup, 1) := by decide +kernel
theorem dX1_append_31 : decode cX1_append 31 = .ok (.getfield 21, 3) := by decide +kernel
theorem dX1_append_34 : decode cX1_append 34 = .ok (.iconst 1, 1) := by decide +kernel
theorem dX1_append_35 : decode cX1_append 35 = .ok (.iadd, 1) := by decide +kernel
theorem dX1_append_36 : decode cX1_append 36 = .ok (.putfield 21, 3) := by decide +kernel
theorem dX1_append_39 : decode cX1_append 39 = .ok (.return_, 1) := by decide +kernel
set_option maxHeartbeats 4000000 in
set_option maxRecDepth 100000 in
theorem kX1_append (l : Launch) (z : Nat) (D : va_G) (cA : Nat → ClassId) (a0 : Nat) (x1 : Int32) (M : Mem) (K : Mem → Prop) (h : PX1_append a0 x1 M K) : Met l yX1_append (.code yX1_append cX1_append 2 none :: gtbl) ({ frames := 0, cells := 0, slots := 0, locals := 0 } : Room) (va_Pc [.ref a0, .int x1] (xB z D cA M)) (va_Qv K (xWd z D cA) (xA z)) 0 0 (xA z) := by
  refine x_met (by decide +kernel) (Nat.le_of_ble_eq_true rfl) (L0 := [(0, .ref a0), (1, .int x1)]) rfl ?_
  intro p e s m args below meth c E hr hlk hnm
  have E : xE RX1 cX1_append 2 D cA p s m args c := E
  replace h := h.2
  refine x_aload_n E dX1_append_0 rfl 0 rfl ?_
  obtain ⟨hT, v1, hv, h⟩ := h
  refine x_get E flX1_21 dX1_append_1 hT hv ?_
  clear hT hv
  refine x_if_lt (tgt := 39) E dX1_append_4 (by decide) (fun c2 => ?_) (fun c2 => ?_)
  · replace h := xbr_t h c2
    clear c2
    exact x_vret E hr hlk dX1_append_39 h
  · replace h := xbr_f h c2
    clear c2
    refine x_aload_n E dX1_append_7 rfl 0 rfl ?_
    obtain ⟨hT, v3, hv, h⟩ := h
    refine x_get E flX1_21 dX1_append_8 hT hv ?_
    clear hT hv
    refine x_aload_n E dX1_append_11 rfl 0 rfl ?_
    obtain ⟨hT, q4, hv, h⟩ := h
    refine x_get E flX1_15 dX1_append_12 hT hv ?_
    clear hT hv
    obtain ⟨hT, h⟩ := h
    refine x_alen (q := 0) E rfl dX1_append_15 hT (fun v5 ev5 => ?_)
    replace h := h v5 ev5
    clear hT ev5
    refine x_icmp_ge (tgt := 39) E dX1_append_16 (by decide) (fun c6 => ?_) (fun c6 => ?_)
    · replace h := xbr_t h c6
      clear c6
      exact x_vret E hr hlk dX1_append_39 h
    · replace h := xbr_f h c6
      clear c6
      refine x_aload_n E dX1_append_19 rfl 0 rfl ?_
      obtain ⟨hT, q7, hv, h⟩ := h
      refine x_get E flX1_15 dX1_append_20 hT hv ?_
      clear hT hv
      refine x_aload_n E dX1_append_23 rfl 0 rfl ?_
      obtain ⟨hT, v8, hv, h⟩ := h
      refine x_get E flX1_21 dX1_append_24 hT hv ?_
      clear hT hv
      refine x_iload_n E dX1_append_27 rfl 1 rfl ?_
      obtain ⟨hT, hi, h⟩ := h
      refine x_iast E dX1_append_28 hT hi (fun M9 eM9 => ?_)
      replace h := h M9 eM9
      clear hT hi eM9
      refine x_aload_n E dX1_append_29 rfl 0 rfl ?_
      refine x_dup E dX1_append_30 rfl ?_
      obtain ⟨hT, v10, hv, h⟩ := h
      refine x_get E flX1_21 dX1_append_31 hT hv ?_
      clear hT hv
      refine x_iconst (v := (J 1)) E dX1_append_34 (by decide) ?_
      refine x_iadd E dX1_append_35 ?_
      obtain ⟨hT, h⟩ := h
      refine x_put E flX1_21 ⟨tyX1_ok, nmX1, rfl⟩ (by decide +kernel) rfl rfl dX1_append_36 hT (fun M11 eM11 => ?_)
      replace h := h M11 eM11
      clear hT eM11
      exact x_vret E hr hlk dX1_append_39 h
theorem dX1_beginsWith_0 : decode cX1_beginsWith 0 = .ok (.aload_n 0, 1) := by decide +kernel
theorem dX1_beginsWith_1 : decode cX1_beginsWith 1 = .ok (.getfield 21, 3) := by decide +kernel
theorem dX1_beginsWith_4 : decode cX1_beginsWith 4 = .ok (.iload_n 2, 1) := by decide +kernel
theorem dX1_beginsWith_5 : decode cX1_beginsWith 5 = .ok (.if_icmp .ge 5, 3) := by decide +kernel
theorem dX1_beginsWith_8 : decode cX1_beginsWith 8 = .ok (.iconst 0, 1) := by decide +kernel
theorem dX1_beginsWith_9 : decode cX1_beginsWith 9 = .ok (.ireturn, 1) := by decide +kernel
theorem dX1_beginsWith_10 : decode cX1_beginsWith 10 = .ok (.iconst 0, 1) := by decide +kernel
theorem dX1_beginsWith_11 : decode cX1_beginsWith 11 = .ok (.istore_n 3, 1) := by decide +kernel
theorem dX1_beginsWith_12 : decode cX1_beginsWith 12 = .ok (.iload_n 3, 1) := by decide +kernel
theorem dX1_beginsWith_13 : decode cX1_beginsWith 13 = .ok (.iload_n 2, 1) := by decide +kernel
theorem dX1_beginsWith_14 : decode cX1_beginsWith 14 = .ok (.if_icmp .ge 24, 3) := by decide +kernel
theorem dX1_beginsWith_17 : decode cX1_beginsWith 17 = .ok (.aload_n 0, 1) := by decide +kernel
theorem dX1_beginsWith_18 : decode cX1_beginsWith 18 = .ok (.iload_n 3, 1) := by decide +kernel
theorem dX1_beginsWith_19 : decode cX1_beginsWith 19 = .ok (.invokevirtual 25, 3) := by decide +kernel
theorem dX1_beginsWith_22 : decode cX1_beginsWith 22 = .ok (.aload_n 1, 1) := by decide +kernel
theorem dX1_beginsWith_23 : decode cX1_beginsWith 23 = .ok (.iload_n 3, 1) := by decide +kernel
theorem dX1_beginsWith_24 : decode cX1_beginsWith 24 = .ok (.invokevirtual 25, 3) := by decide +kernel
theorem dX1_beginsWith_27 : decode cX1_beginsWith 27 = .ok (.if_icmp .eq 5, 3) := by decide +kernel
theorem dX1_beginsWith_30 : decode cX1_beginsWith 30 = .ok (.iconst 0, 1) := by decide +kernel
theorem dX1_beginsWith_31 : decode cX1_beginsWith 31 = .ok (.ireturn, 1) := by decide +kernel
theorem dX1_beginsWith_32 : decode cX1_beginsWith 32 = .ok (.iinc 3 1, 3) := by decide +kernel
theorem dX1_beginsWith_35 : decode cX1_beginsWith 35 = .ok (.goto (-23), 3) := by decide +kernel
theorem dX1_beginsWith_38 : decode cX1_beginsWith 38 = .ok (.iconst 1, 1) := by decide +kernel
theorem dX1_beginsWith_39 : decode cX1_beginsWith 39 = .ok (.ireturn, 1) := by decide +kernel
set_option maxHeartbeats 4000000 in
set_option maxRecDepth 100000 in
theorem kX1_beginsWith (l : Launch) (z : Nat) (D : va_G) (cA : Nat → ClassId) (a0 : Nat) (a1 : Nat) (x2 : Int32) (M : Mem) (K : Int32 → Prop) (h : PX1_beginsWith a0 a1 x2 M K) : Met l yX1_beginsWith (.code yX1_beginsWith cX1_beginsWith 4 (some .boolean) :: gtbl) ({ frames := 1, cells := 0, slots := 0, locals := 21 } : Room) (va_Pc [.ref a0, .ref a1, .int x2] (xB z D cA M)) (va_Qi (fun r M1 => M1 = M ∧ K r) (xWd z D cA) (xA z)) 0 0 (xA z) := by
  refine x_met (by decide +kernel) (Nat.le_of_ble_eq_true rfl) (L0 := [(0, .ref a0), (1, .ref a1), (2, .int x2)]) rfl ?_
  intro p e s m args below meth c E hr hlk hnm
  have E : xE RX1 cX1_beginsWith 4 D cA p s m args c := E
  replace h := h.2
  refine x_aload_n E dX1_beginsWith_0 rfl 0 rfl ?_
  obtain ⟨hT, v1, hv, h⟩ := h
  refine x_get E flX1_21 dX1_beginsWith_1 hT hv ?_
  clear hT hv
  refine x_iload_n E dX1_beginsWith_4 rfl 2 rfl ?_
  refine x_icmp_ge (tgt := 10) E dX1_beginsWith_5 (by decide) (fun c2 => ?_) (fun c2 => ?_)
  · replace h := xbr_t h c2
    clear c2
    refine x_iconst (v := (J 0)) E dX1_beginsWith_10 (by decide) ?_
    refine x_istore_n (L' := [(3, .int (J 0)), (0, .ref a0), (1, .ref a1), (2, .int x2)]) E dX1_beginsWith_11 rfl (by decide) rfl ?_
    refine x_sub (L' := [(0, .ref a0), (1, .ref a1), (2, .int x2), (3, .int (J 0))]) [1, 2, 3, 0] rfl ?_
    refine lp_sound (T := fun sv => xG p l e ({ frames := 1, cells := 0, slots := 0, locals := 21 } : Room) s m args below meth c (MQ below (va_Qi (fun r M1 => M1 = M ∧ K r) (xWd z D cA) (xA z)) args s 0 0 (xA z)) 4 z D cA M (0) (0) 12 [(0, .ref a0), (1, .ref a1), (2, .int x2), (3, .int sv)] []) ?_ (J 0) h
    clear h
    intro kc12 hk12 sv h
    obtain ⟨x3, esv⟩ : ∃ y, y = sv := ⟨_, rfl⟩
    subst esv
    replace h : CX1_beginsWith_12 K M a0 a1 x2 kc12 x3 := h
    try dsimp only
    refine x_iload_n E dX1_beginsWith_12 rfl 3 rfl ?_
    refine x_iload_n E dX1_beginsWith_13 rfl 2 rfl ?_
    refine x_icmp_ge (tgt := 38) E dX1_beginsWith_14 (by decide) (fun c3 => ?_) (fun c3 => ?_)
    · replace h := xbr_t h c3
      clear c3
      refine x_iconst (v := (J 1)) E dX1_beginsWith_38 (by decide) ?_
      exact x_zret E hr hlk dX1_beginsWith_39 h.1 ⟨rfl, h.2⟩
    · replace h := xbr_f h c3
      clear c3
      refine x_aload_n E dX1_beginsWith_17 rfl 0 rfl ?_
      refine x_iload_n E dX1_beginsWith_18 rfl 3 rfl ?_
      refine x_callVi (T := TX1) (N := 2) (t := 2) (As := [.int x3]) E mlX1_25 inX1_get seX1_get rfl ⟨by decide, by decide⟩ (tX1_get h) (kX1_get l z D cA a0 x3 M _ h) rfl ⟨rfl, rfl⟩ ⟨Nat.le_of_ble_eq_true rfl, Nat.le_of_ble_eq_true rfl⟩ ⟨(Nat.le_of_ble_eq_true rfl), (Nat.le_of_ble_eq_true rfl)⟩ (Nat.le_of_ble_eq_true rfl) rfl dX1_beginsWith_19 (x_pure (fun r4 h => ?_))
      refine x_aload_n E dX1_beginsWith_22 rfl 1 rfl ?_
      refine x_iload_n E dX1_beginsWith_23 rfl 3 rfl ?_
      refine x_callVi (T := TX1) (N := 2) (t := 2) (As := [.int x3]) E mlX1_25 inX1_get seX1_get rfl ⟨by decide, by decide⟩ (tX1_get h) (kX1_get l z D cA a1 x3 M _ h) rfl ⟨rfl, rfl⟩ ⟨Nat.le_of_ble_eq_true rfl, Nat.le_of_ble_eq_true rfl⟩ ⟨(Nat.le_of_ble_eq_true rfl), (Nat.le_of_ble_eq_true rfl)⟩ (Nat.le_of_ble_eq_true rfl) rfl dX1_beginsWith_24 (x_pure (fun r6 h => ?_))
      refine x_icmp_eq (tgt := 32) E dX1_beginsWith_27 (by decide) (fun c8 => ?_) (fun c8 => ?_)
      · replace h := xbr_t h c8
        clear c8
        refine x_iinc (v := (x3 + (J 1))) (L' := [(3, .int (x3 + (J 1))), (0, .ref a0), (1, .ref a1), (2, .int x2)]) E dX1_beginsWith_32 3 rfl rfl (by decide) rfl ?_
        refine x_goto (tgt := 12) E dX1_beginsWith_35 (by decide) ?_
        refine x_sub (L' := [(0, .ref a0), (1, .ref a1), (2, .int x2), (3, .int (x3 + (J 1)))]) [1, 2, 3, 0] rfl ?_
        exact hk12 (x3 + (J 1)) h
      · replace h := xbr_f h c8
        clear c8
        refine x_iconst (v := (J 0)) E dX1_beginsWith_30 (by decide) ?_
        exact x_zret E hr hlk dX1_beginsWith_31 h.1 ⟨rfl, h.2⟩
  · replace h := xbr_f h c2
    clear c2
    refine x_iconst (v := (J 0)) E dX1_beginsWith_8 (by decide) ?_
    exact x_zret E hr hlk dX1_beginsWith_9 h.1 ⟨rfl, h.2⟩
theorem dX2_init_0 : decode cX2_init 0 = .ok (.aload_n 0, 1) := by decide +kernel
theorem dX2_init_1 : decode cX2_init 1 = .ok (.invokespecial 3, 3) := by decide +kernel
theorem dX2_init_4 : decode cX2_init 4 = .ok (.aload_n 0, 1) := by decide +kernel
theorem dX2_init_5 : decode cX2_init 5 = .ok (.bipush 24, 2) := by decide +kernel
theorem dX2_init_7 : decode cX2_init 7 = .ok (.anewarray 9, 3) := by decide +kernel
theorem dX2_init_10 : decode cX2_init 10 = .ok (.putfield 11, 3) := by decide +kernel
theorem dX2_init_13 : decode cX2_init 13 = .ok (.aload_n 0, 1) := by decide +kernel
theorem dX2_init_14 : decode cX2_init 14 = .ok (.new 9, 3) := by decide +kernel
theorem dX2_init_17 : decode cX2_init 17 = .ok (.dup, 1) := by decide +kernel
theorem dX2_init_18 : decode cX2_init 18 = .ok (.invokespecial 17, 3) := by decide +kernel
theorem dX2_init_21 : decode cX2_init 21 = .ok (.putfield 18, 3) := by decide +kernel
theorem dX2_init_24 : decode cX2_init 24 = .ok (.iconst 0, 1) := by decide +kernel
theorem dX2_init_25 : decode cX2_init 25 = .ok (.istore_n 1, 1) := by decide +kernel
theorem dX2_init_26 : decode cX2_init 26 = .ok (.iload_n 1, 1) := by decide +kernel
theorem dX2_init_27 : decode cX2_init 27 = .ok (.aload_n 0, 1) := by decide +kernel
theorem dX2_init_28 : decode cX2_init 28 = .ok (.getfield 11, 3) := by decide +kernel
theorem dX2_init_31 : decode cX2_init 31 = .ok (.arraylength, 1) := by decide +kernel
theorem dX2_init_32 : decode cX2_init 32 = .ok (.if_icmp .ge 22, 3) := by decide +kernel
theorem dX2_init_35 : decode cX2_init 35 = .ok (.aload_n 0, 1) := by decide +kernel
theorem dX2_init_36 : decode cX2_init 36 = .ok (.getfield 11, 3) := by decide +kernel
theorem dX2_init_39 : decode cX2_init 39 = .ok (.iload_n 1, 1) := by decide +kernel
theorem dX2_init_40 : decode cX2_init 40 = .ok (.new 9, 3) := by decide +kernel
theorem dX2_init_43 : decode cX2_init 43 = .ok (.dup, 1) := by decide +kernel
theorem dX2_init_44 : decode cX2_init 44 = .ok (.invokespecial 17, 3) := by decide +kernel
theorem dX2_init_47 : decode cX2_init 47 = .ok (.aastore, 1) := by decide +kernel
theorem dX2_init_48 : decode cX2_init 48 = .ok (.iinc 1 1, 3) := by decide +kernel
theorem dX2_init_51 : decode cX2_init 51 = .ok (.goto (-25), 3) := by decide +kernel
theorem dX2_init_54 : decode cX2_init 54 = .ok (.aload_n 0, 1) := by decide +kernel
theorem dX2_init_55 : decode cX2_init 55 = .ok (.iconst 0, 1) := by decide +kernel
theorem dX2_init_56 : decode cX2_init 56 = .ok (.putfield 22, 3) := by decide +kernel
theorem dX2_init_59 : decode cX2_init 59 = .ok (.aload_n 0, 1) := by decide +kernel
theorem dX2_init_60 : decode cX2_init 60 = .ok (.iconst 0, 1) := by decide +kernel
theorem dX2_init_61 : decode cX2_init 61 = .ok (.putfield 26, 3) := by decide +kernel
theorem dX2_init_64 : decode cX2_init 64 = .ok (.return_, 1) := by decide +kernel
set_option maxHeartbeats 4000000 in
set_option maxRecDepth 100000 in
theorem kX2_init (l : Launch) (z : Nat) (D : va_G) (cA : Nat → ClassId) (a0 : Nat) (M : Mem) (K : Mem → Prop) (h : PX2_init a0 M K) : Met l yX2_init (.code yX2_init cX2_init 2 none :: gtbl) ({ frames := 3, cells := 100, slots := 20000, locals := 62 } : Room) (va_Pc [.ref a0] (xB z D cA M)) (va_Qv K (xWd z D cA) (xA z)) 100 20000 (xA z) := by
  refine x_met (by decide +kernel) (Nat.le_of_ble_eq_true rfl) (L0 := [(0, .ref a0)]) rfl ?_
  intro p e s m args below meth c E hr hlk hnm
  have E : xE RX2 cX2_init 2 D cA p s m args c := E
  replace h := h.2
  refine x_aload_n E dX2_init_0 rfl 0 rfl ?_
  refine x_objInit E (gw 45 (by decide +kernel) rfl) (gw 21 (by decide +kernel) rfl) (gw 22 (by decide +kernel) rfl) dX2_init_1 (Nat.le_of_ble_eq_true rfl) (Nat.le_of_ble_eq_true rfl) ?_
  refine x_aload_n E dX2_init_4 rfl 0 rfl ?_
  refine x_bipush (v := (J 24)) E dX2_init_5 (by decide) ?_
  obtain ⟨hi, hN, h⟩ := h
  refine x_anew (N := 24) E (gw 46 (by decide +kernel) rfl) hi hN (Nat.le_of_ble_eq_true rfl) (Nat.le_of_ble_eq_true rfl) (Nat.le_of_ble_eq_true rfl) dX2_init_7 (fun q1 M2 eq1 eM2 => ?_)
  replace h := h q1 M2 eq1 eM2
  clear eq1 eM2 hi hN
  obtain ⟨hT, h⟩ := h
  refine x_putF E flX2_11 (gw 109 (by decide +kernel) rfl) ⟨tyX2_ok, nmX2, rfl⟩ rfl hnm (by decide +kernel) rfl rfl dX2_init_10 hT (fun M3 eM3 => ?_)
  replace h := h M3 eM3
  clear hT eM3
  refine x_aload_n E dX2_init_13 rfl 0 rfl ?_
  refine x_new (ty := tyX0) E (C := RX0) (T := TX0) (N := 12) (t := 1) rfl ⟨by decide, by decide⟩ uiX0 tyX0_ok (gw 46 (by decide +kernel) rfl) (gw 48 (by decide +kernel) rfl) (gw 5 (by decide +kernel) rfl) (Nat.le_of_ble_eq_true rfl) (Nat.le_of_ble_eq_true rfl) dX2_init_14 (fun q4 M5 eq4 eM5 => ?_)
  replace h := h q4 M5 eq4 eM5
  clear eq4 eM5
  refine x_dup E dX2_init_17 rfl ?_
  refine x_callIN (As := []) E mlX2_17 inX0_init rfl (kX0_init l z D cA q4 M5 _ h) rfl ⟨rfl, rfl⟩ ⟨Nat.le_of_ble_eq_true rfl, Nat.le_of_ble_eq_true rfl⟩ ⟨(Nat.le_of_ble_eq_true rfl), (Nat.le_of_ble_eq_true rfl)⟩ (Nat.le_of_ble_eq_true rfl) rfl dX2_init_18 (fun M7 h => ?_)
  obtain ⟨hT, h⟩ := h
  refine x_putF E flX2_18 (gw 110 (by decide +kernel) rfl) ⟨tyX2_ok, nmX2, rfl⟩ rfl hnm (by decide +kernel) rfl rfl dX2_init_21 hT (fun M8 eM8 => ?_)
  replace h := h M8 eM8
  clear hT eM8
  refine x_iconst (v := (J 0)) E dX2_init_24 (by decide) ?_
  refine x_istore_n (L' := [(1, .int (J 0)), (0, .ref a0)]) E dX2_init_25 rfl (by decide) rfl ?_
  refine x_sub (L' := [(0, .ref a0), (1, .int (J 0))]) [1, 0] rfl ?_
  refine lp_sound (T := fun sv => xG p l e ({ frames := 3, cells := 100, slots := 20000, locals := 62 } : Room) s m args below meth c (MQ below (va_Qv K (xWd z D cA) (xA z)) args s 100 20000 (xA z)) 2 z D cA sv.1 (sv.2.1) (sv.2.2.1) 26 [(0, .ref a0), (1, .int sv.2.2.2)] []) ?_ (M8, 0 + 1 + 1 + 2, 0 + 24 + 12 + 652, (J 0)) h
  clear h
  intro kc26 hk26 sv h
  obtain ⟨M, ck, cn, x1⟩ := sv
  replace h : CX2_init_26 K a0 kc26 M ck cn x1 := h
  try dsimp only
  refine x_iload_n E dX2_init_26 rfl 1 rfl ?_
  refine x_aload_n E dX2_init_27 rfl 0 rfl ?_
  obtain ⟨hT, q9, hv, h⟩ := h
  refine x_get E flX2_11 dX2_init_28 hT hv ?_
  clear hT hv
  obtain ⟨hT, h⟩ := h
  refine x_alen (q := 2) E rfl dX2_init_31 hT (fun v10 ev10 => ?_)
  replace h := h v10 ev10
  clear hT ev10
  refine x_icmp_ge (tgt := 54) E dX2_init_32 (by decide) (fun c11 => ?_) (fun c11 => ?_)
  · replace h := xbr_t h c11
    clear c11
    refine x_aload_n E dX2_init_54 rfl 0 rfl ?_
    refine x_iconst (v := (J 0)) E dX2_init_55 (by decide) ?_
    obtain ⟨hT, h⟩ := h
    refine x_put E flX2_22 ⟨tyX2_ok, nmX2, rfl⟩ (by decide +kernel) rfl rfl dX2_init_56 hT (fun M12 eM12 => ?_)
    replace h := h M12 eM12
    clear hT eM12
    refine x_aload_n E dX2_init_59 rfl 0 rfl ?_
    refine x_iconst (v := (J 0)) E dX2_init_60 (by decide) ?_
    obtain ⟨hT, h⟩ := h
    refine x_put E flX2_26 ⟨tyX2_ok, nmX2, rfl⟩ (by decide +kernel) rfl rfl dX2_init_61 hT (fun M13 eM13 => ?_)
    replace h := h M13 eM13
    clear hT eM13
    obtain ⟨hc, h⟩ := h
    refine x_widen (k' := 100) (n' := 20000) hc.1 hc.2 ?_
    exact x_vret E hr hlk dX2_init_64 h
  · replace h := xbr_f h c11
    clear c11
    refine x_aload_n E dX2_init_35 rfl 0 rfl ?_
    obtain ⟨hT, q14, hv, h⟩ := h
    refine x_get E flX2_11 dX2_init_36 hT hv ?_
    clear hT hv
    refine x_iload_n E dX2_init_39 rfl 1 rfl ?_
    obtain ⟨hc, h⟩ := h
    refine x_new (ty := tyX0) E (C := RX0) (T := TX0) (N := 12) (t := 1) rfl ⟨by decide, by decide⟩ uiX0 tyX0_ok (gw 46 (by decide +kernel) rfl) (gw 48 (by decide +kernel) rfl) (gw 5 (by decide +kernel) rfl) hc.1 hc.2 dX2_init_40 (fun q15 M16 eq15 eM16 => ?_)
    replace h := h q15 M16 eq15 eM16
    clear eq15 eM16
    refine x_dup E dX2_init_43 rfl ?_
    obtain ⟨hc, h⟩ := h
    refine x_callIN (As := []) E mlX2_17 inX0_init rfl (kX0_init l z D cA q15 M16 _ h) rfl ⟨rfl, rfl⟩ ⟨Nat.le_of_ble_eq_true rfl, Nat.le_of_ble_eq_true rfl⟩ ⟨hc.1, hc.2⟩ (Nat.le_of_ble_eq_true rfl) rfl dX2_init_44 (fun M18 h => ?_)
    clear hc
    obtain ⟨hT, hi, hq, h⟩ := h
    refine x_aast E dX2_init_47 hT hi hq (fun M19 eM19 => ?_)
    replace h := h M19 eM19
    clear hT hi eM19
    refine x_iinc (v := (x1 + (J 1))) (L' := [(1, .int (x1 + (J 1))), (0, .ref a0)]) E dX2_init_48 1 rfl rfl (by decide) rfl ?_
    refine x_goto (tgt := 26) E dX2_init_51 (by decide) ?_
    refine x_sub (L' := [(0, .ref a0), (1, .int (x1 + (J 1)))]) [1, 0] rfl ?_
    exact hk26 (M19, ck + 1 + 2, cn + 12 + 652, (x1 + (J 1))) h
theorem dX2_size_0 : decode cX2_size 0 = .ok (.aload_n 0, 1) := by decide +kernel
theorem dX2_size_1 : decode cX2_size 1 = .ok (.getfield 22, 3) := by decide +kernel
theorem dX2_size_4 : decode cX2_size 4 = .ok (.ireturn, 1) := by decide +kernel
set_option maxHeartbeats 4000000 in
set_option maxRecDepth 100000 in
theorem kX2_size (l : Launch) (z : Nat) (D : va_G) (cA : Nat → ClassId) (a0 : Nat) (M : Mem) (K : Int32 → Prop) (h : PX2_size a0 M K) : Met l yX2_size (.code yX2_size cX2_size 1 (some .int) :: gtbl) ({ frames := 0, cells := 0, slots := 0, locals := 0 } : Room) (va_Pc [.ref a0] (xB z D cA M)) (va_Qi (fun r M1 => M1 = M ∧ K r) (xWd z D cA) (xA z)) 0 0 (xA z) := by
  refine x_met (by decide +kernel) (Nat.le_of_ble_eq_true rfl) (L0 := [(0, .ref a0)]) rfl ?_
  intro p e s m args below meth c E hr hlk hnm
  have E : xE RX2 cX2_size 1 D cA p s m args c := E
  replace h := h.2
  refine x_aload_n E dX2_size_0 rfl 0 rfl ?_
  obtain ⟨hT, v1, hv, h⟩ := h
  refine x_get E flX2_22 dX2_size_1 hT hv ?_
  clear hT hv
  exact x_iret E hr hlk dX2_size_4 ⟨rfl, h⟩
theorem dX2_has_0 : decode cX2_has 0 = .ok (.iload_n 1, 1) := by decide +kernel
theorem dX2_has_1 : decode cX2_has 1 = .ok (.ifCond .lt 15, 3) := by decide +kernel
theorem dX2_has_4 : decode cX2_has 4 = .ok (.iload_n 1, 1) := by decide +kernel
theorem dX2_has_5 : decode cX2_has 5 = .ok (.aload_n 0, 1) := by decide +kernel
theorem dX2_has_6 : decode cX2_has 6 = .ok (.getfield 22, 3) := by decide +kernel
theorem dX2_has_9 : decode cX2_has 9 = .ok (.if_icmp .ge 7, 3) := by decide +kernel
theorem dX2_has_12 : decode cX2_has 12 = .ok (.iconst 1, 1) := by decide +kernel
theorem dX2_has_13 : decode cX2_has 13 = .ok (.goto 4, 3) := by decide +kernel
theorem dX2_has_16 : decode cX2_has 16 = .ok (.iconst 0, 1) := by decide +kernel
theorem dX2_has_17 : decode cX2_has 17 = .ok (.ireturn, 1) := by decide +kernel
set_option maxHeartbeats 4000000 in
set_option maxRecDepth 100000 in
theorem kX2_has (l : Launch) (z : Nat) (D : va_G) (cA : Nat → ClassId) (a0 : Nat) (x1 : Int32) (M : Mem) (K : Int32 → Prop) (h : PX2_has a0 x1 M K) : Met l yX2_has (.code yX2_has cX2_has 2 (some .boolean) :: gtbl) ({ frames := 0, cells := 0, slots := 0, locals := 0 } : Room) (va_Pc [.ref a0, .int x1] (xB z D cA M)) (va_Qi (fun r M1 => M1 = M ∧ K r) (xWd z D cA) (xA z)) 0 0 (xA z) := by
  refine x_met (by decide +kernel) (Nat.le_of_ble_eq_true rfl) (L0 := [(0, .ref a0), (1, .int x1)]) rfl ?_
  intro p e s m args below meth c E hr hlk hnm
  have E : xE RX2 cX2_has 2 D cA p s m args c := E
  replace h := h.2
  refine x_iload_n E dX2_has_0 rfl 1 rfl ?_
  refine x_if_lt (tgt := 16) E dX2_has_1 (by decide) (fun c1 => ?_) (fun c1 => ?_)
  · replace h := xbr_t h c1
    clear c1
    refine x_iconst (v := (J 0)) E dX2_has_16 (by decide) ?_
    exact x_zret E hr hlk dX2_has_17 h.1 ⟨rfl, h.2⟩
  · replace h := xbr_f h c1
    clear c1
    refine x_iload_n E dX2_has_4 rfl 1 rfl ?_
    refine x_aload_n E dX2_has_5 rfl 0 rfl ?_
    obtain ⟨hT, v2, hv, h⟩ := h
    refine x_get E flX2_22 dX2_has_6 hT hv ?_
    clear hT hv
    refine x_icmp_ge (tgt := 16) E dX2_has_9 (by decide) (fun c3 => ?_) (fun c3 => ?_)
    · replace h := xbr_t h c3
      clear c3
      refine x_iconst (v := (J 0)) E dX2_has_16 (by decide) ?_
      exact x_zret E hr hlk dX2_has_17 h.1 ⟨rfl, h.2⟩
    · replace h := xbr_f h c3
      clear c3
      refine x_iconst (v := (J 1)) E dX2_has_12 (by decide) ?_
      refine x_goto (tgt := 17) E dX2_has_13 (by decide) ?_
      exact x_zret E hr hlk dX2_has_17 h.1 ⟨rfl, h.2⟩
theorem dX2_of_0 : decode cX2_of 0 = .ok (.iload_n 1, 1) := by decide +kernel
theorem dX2_of_1 : decode cX2_of 1 = .ok (.ifCond .lt 12, 3) := by decide +kernel
theorem dX2_of_4 : decode cX2_of 4 = .ok (.iload_n 1, 1) := by decide +kernel
theorem dX2_of_5 : decode cX2_of 5 = .ok (.aload_n 0, 1) := by decide +kernel
theorem dX2_of_6 : decode cX2_of 6 = .ok (.getfield 11, 3) := by decide +kernel
theorem dX2_of_9 : decode cX2_of 9 = .ok (.arraylength, 1) := by decide +kernel
theorem dX2_of_10 : decode cX2_of 10 = .ok (.if_icmp .lt 8, 3) := by decide +kernel
theorem dX2_of_13 : decode cX2_of 13 = .ok (.aload_n 0, 1) := by decide +kernel
theorem dX2_of_14 : decode cX2_of 14 = .ok (.getfield 18, 3) := by decide +kernel
theorem dX2_of_17 : decode cX2_of 17 = .ok (.areturn, 1) := by decide +kernel
theorem dX2_of_18 : decode cX2_of 18 = .ok (.aload_n 0, 1) := by decide +kernel
theorem dX2_of_19 : decode cX2_of 19 = .ok (.getfield 11, 3) := by decide +kernel
theorem dX2_of_22 : decode cX2_of 22 = .ok (.iload_n 1, 1) := by decide +kernel
theorem dX2_of_23 : decode cX2_of 23 = .ok (.aaload, 1) := by decide +kernel
theorem dX2_of_24 : decode cX2_of 24 = .ok (.astore_n 2, 1) := by decide +kernel
theorem dX2_of_25 : decode cX2_of 25 = .ok (.aload_n 2, 1) := by decide +kernel
theorem dX2_of_26 : decode cX2_of 26 = .ok (.ifnonnull 10, 3) := by decide +kernel
theorem dX2_of_29 : decode cX2_of 29 = .ok (.aload_n 0, 1) := by decide +kernel
theorem dX2_of_30 : decode cX2_of 30 = .ok (.getfield 18, 3) := by decide +kernel
theorem dX2_of_33 : decode cX2_of 33 = .ok (.goto 4, 3) := by decide +kernel
theorem dX2_of_36 : decode cX2_of 36 = .ok (.aload_n 2, 1) := by decide +kernel
theorem dX2_of_37 : decode cX2_of 37 = .ok (.areturn, 1) := by decide +kernel
set_option maxHeartbeats 4000000 in
set_option maxRecDepth 100000 in
theorem kX2_of (l : Launch) (z : Nat) (D : va_G) (cA : Nat → ClassId) (a0 : Nat) (x1 : Int32) (M : Mem) (K : Nat → Prop) (h : PX2_of a0 x1 M K) : Met l yX2_of (.code yX2_of cX2_of 3 (some (.object "OutOfPlace$Book")) :: gtbl) ({ frames := 0, cells := 0, slots := 0, locals := 0 } : Room) (va_Pc [.ref a0, .int x1] (xB z D cA M)) (va_Qr (fun u : Nat × Mem => u.2 = M ∧ K u.1) (fun u a t => a = u.1 ∧ Wd z D cA u.2 t.heap) (xA z)) 0 0 (xA z) := by
  refine x_met (by decide +kernel) (Nat.le_of_ble_eq_true rfl) (L0 := [(0, .ref a0), (1, .int x1)]) rfl ?_
  intro p e s m args below meth c E hr hlk hnm
  have E : xE RX2 cX2_of 3 D cA p s m args c := E
  replace h := h.2
  refine x_iload_n E dX2_of_0 rfl 1 rfl ?_
  refine x_if_lt (tgt := 13) E dX2_of_1 (by decide) (fun c1 => ?_) (fun c1 => ?_)
  · replace h := xbr_t h c1
    clear c1
    refine x_aload_n E dX2_of_13 rfl 0 rfl ?_
    obtain ⟨hT, q2, hv, h⟩ := h
    refine x_get E flX2_18 dX2_of_14 hT hv ?_
    clear hT hv
    exact x_aret (K := K) E hr hlk dX2_of_17 h
  · replace h := xbr_f h c1
    clear c1
    refine x_iload_n E dX2_of_4 rfl 1 rfl ?_
    refine x_aload_n E dX2_of_5 rfl 0 rfl ?_
    obtain ⟨hT, q3, hv, h⟩ := h
    refine x_get E flX2_11 dX2_of_6 hT hv ?_
    clear hT hv
    obtain ⟨hT, h⟩ := h
    refine x_alen (q := 2) E rfl dX2_of_9 hT (fun v4 ev4 => ?_)
    replace h := h v4 ev4
    clear hT ev4
    refine x_icmp_lt (tgt := 18) E dX2_of_10 (by decide) (fun c5 => ?_) (fun c5 => ?_)
    · replace h := xbr_t h c5
      clear c5
      refine x_aload_n E dX2_of_18 rfl 0 rfl ?_
      obtain ⟨hT, q6, hv, h⟩ := h
      refine x_get E flX2_11 dX2_of_19 hT hv ?_
      clear hT hv
      refine x_iload_n E dX2_of_22 rfl 1 rfl ?_
      obtain ⟨hT, hi, q7, hv, h⟩ := h
      refine x_aald E dX2_of_23 hT hi hv ?_
      clear hT hi hv
      refine x_astore_n (L' := [(2, .ref q7), (0, .ref a0), (1, .int x1)]) E dX2_of_24 rfl (by decide) rfl ?_
      refine x_aload_n E dX2_of_25 rfl 0 rfl ?_
      refine x_ifnonnull (tgt := 36) E dX2_of_26 (by decide) ?_
      refine x_aload_n E dX2_of_36 rfl 0 rfl ?_
      exact x_aret (K := K) E hr hlk dX2_of_37 h
    · replace h := xbr_f h c5
      clear c5
      refine x_aload_n E dX2_of_13 rfl 0 rfl ?_
      obtain ⟨hT, q8, hv, h⟩ := h
      refine x_get E flX2_18 dX2_of_14 hT hv ?_
      clear hT hv
      exact x_aret (K := K) E hr hlk dX2_of_17 h
theorem dX2_hasSpace_0 : decode cX2_hasSpace 0 = .ok (.aload_n 0, 1) := by decide +kernel
theorem dX2_hasSpace_1 : decode cX2_hasSpace 1 = .ok (.getfield 26, 3) := by decide +kernel
theorem dX2_hasSpace_4 : decode cX2_hasSpace 4 = .ok (.bipush 24, 2) := by decide +kernel
theorem dX2_hasSpace_6 : decode cX2_hasSpace 6 = .ok (.if_icmp .ge 7, 3) := by decide +kernel
theorem dX2_hasSpace_9 : decode cX2_hasSpace 9 = .ok (.iconst 1, 1) := by decide +kernel
theorem dX2_hasSpace_10 : decode cX2_hasSpace 10 = .ok (.goto 4, 3) := by decide +kernel
theorem dX2_hasSpace_13 : decode cX2_hasSpace 13 = .ok (.iconst 0, 1) := by decide +kernel
theorem dX2_hasSpace_14 : decode cX2_hasSpace 14 = .ok (.ireturn, 1) := by decide +kernel
set_option maxHeartbeats 4000000 in
set_option maxRecDepth 100000 in
theorem kX2_hasSpace (l : Launch) (z : Nat) (D : va_G) (cA : Nat → ClassId) (a0 : Nat) (M : Mem) (K : Int32 → Prop) (h : PX2_hasSpace a0 M K) : Met l yX2_hasSpace (.code yX2_hasSpace cX2_hasSpace 1 (some .boolean) :: gtbl) ({ frames := 0, cells := 0, slots := 0, locals := 0 } : Room) (va_Pc [.ref a0] (xB z D cA M)) (va_Qi (fun r M1 => M1 = M ∧ K r) (xWd z D cA) (xA z)) 0 0 (xA z) := by
  refine x_met (by decide +kernel) (Nat.le_of_ble_eq_true rfl) (L0 := [(0, .ref a0)]) rfl ?_
  intro p e s m args below meth c E hr hlk hnm
  have E : xE RX2 cX2_hasSpace 1 D cA p s m args c := E
  replace h := h.2
  refine x_aload_n E dX2_hasSpace_0 rfl 0 rfl ?_
  obtain ⟨hT, v1, hv, h⟩ := h
  refine x_get E flX2_26 dX2_hasSpace_1 hT hv ?_
  clear hT hv
  refine x_bipush (v := (J 24)) E dX2_hasSpace_4 (by decide) ?_
  refine x_icmp_ge (tgt := 13) E dX2_hasSpace_6 (by decide) (fun c2 => ?_) (fun c2 => ?_)
  · replace h := xbr_t h c2
    clear c2
    refine x_iconst (v := (J 0)) E dX2_hasSpace_13 (by decide) ?_
    exact x_zret E hr hlk dX2_hasSpace_14 h.1 ⟨rfl, h.2⟩
  · replace h := xbr_f h c2
    clear c2
    refine x_iconst (v := (J 1)) E dX2_hasSpace_9 (by decide) ?_
    refine x_goto (tgt := 14) E dX2_hasSpace_10 (by decide) ?_
    exact x_zret E hr hlk dX2_hasSpace_14 h.1 ⟨rfl, h.2⟩
theorem dX2_draft_0 : decode cX2_draft 0 = .ok (.aload_n 0, 1) := by decide +kernel
theorem dX2_draft_1 : decode cX2_draft 1 = .ok (.aload_n 0, 1) := by decide +kernel
theorem dX2_draft_2 : decode cX2_draft 2 = .ok (.getfield 26, 3) := by decide +kernel
theorem dX2_draft_5 : decode cX2_draft 5 = .ok (.invokevirtual 29, 3) := by decide +kernel
theorem dX2_draft_8 : decode cX2_draft 8 = .ok (.areturn, 1) := by decide +kernel
set_option maxHeartbeats 4000000 in
set_option maxRecDepth 100000 in
theorem kX2_draft (l : Launch) (z : Nat) (D : va_G) (cA : Nat → ClassId) (a0 : Nat) (M : Mem) (K : Nat → Prop) (h : PX2_draft a0 M K) : Met l yX2_draft (.code yX2_draft cX2_draft 1 (some (.object "OutOfPlace$Book")) :: gtbl) ({ frames := 1, cells := 0, slots := 0, locals := 22 } : Room) (va_Pc [.ref a0] (xB z D cA M)) (va_Qr (fun u : Nat × Mem => u.2 = M ∧ K u.1) (fun u a t => a = u.1 ∧ Wd z D cA u.2 t.heap) (xA z)) 0 0 (xA z) := by
  refine x_met (by decide +kernel) (Nat.le_of_ble_eq_true rfl) (L0 := [(0, .ref a0)]) rfl ?_
  intro p e s m args below meth c E hr hlk hnm
  have E : xE RX2 cX2_draft 1 D cA p s m args c := E
  replace h := h.2
  refine x_aload_n E dX2_draft_0 rfl 0 rfl ?_
  refine x_aload_n E dX2_draft_1 rfl 0 rfl ?_
  obtain ⟨hT, v1, hv, h⟩ := h
  refine x_get E flX2_26 dX2_draft_2 hT hv ?_
  clear hT hv
  refine x_callVr (T := TX2) (N := 4) (t := 3) (As := [.int v1]) E mlX2_29 inX2_of seX2_of rfl ⟨by decide, by decide⟩ (tX2_of h) (kX2_of l z D cA a0 v1 M _ h) rfl ⟨rfl, rfl⟩ ⟨Nat.le_of_ble_eq_true rfl, Nat.le_of_ble_eq_true rfl⟩ ⟨(Nat.le_of_ble_eq_true rfl), (Nat.le_of_ble_eq_true rfl)⟩ (Nat.le_of_ble_eq_true rfl) rfl dX2_draft_5 (fun q2 h => ?_)
  exact x_aret (K := K) E hr hlk dX2_draft_8 h
theorem dX2_hasMarkOfDraft_0 : decode cX2_hasMarkOfDraft 0 = .ok (.iconst 0, 1) := by decide +kernel
theorem dX2_hasMarkOfDraft_1 : decode cX2_hasMarkOfDraft 1 = .ok (.istore_n 1, 1) := by decide +kernel
theorem dX2_hasMarkOfDraft_2 : decode cX2_hasMarkOfDraft 2 = .ok (.iload_n 1, 1) := by decide +kernel
theorem dX2_hasMarkOfDraft_3 : decode cX2_hasMarkOfDraft 3 = .ok (.aload_n 0, 1) := by decide +kernel
theorem dX2_hasMarkOfDraft_4 : decode cX2_hasMarkOfDraft 4 = .ok (.getfield 26, 3) := by decide +kernel
theorem dX2_hasMarkOfDraft_7 : decode cX2_hasMarkOfDraft 7 = .ok (.if_icmp .ge 27, 3) := by decide +kernel
theorem dX2_hasMarkOfDraft_10 : decode cX2_hasMarkOfDraft 10 = .ok (.aload_n 0, 1) := by decide +kernel
theorem dX2_hasMarkOfDraft_11 : decode cX2_hasMarkOfDraft 11 = .ok (.iload_n 1, 1) := by decide +kernel
theorem dX2_hasMarkOfDraft_12 : decode cX2_hasMarkOfDraft 12 = .ok (.invokevirtual 29, 3) := by decide +kernel
theorem dX2_hasMarkOfDraft_15 : decode cX2_hasMarkOfDraft 15 = .ok (.aload_n 0, 1) := by decide +kernel
theorem dX2_hasMarkOfDraft_16 : decode cX2_hasMarkOfDraft 16 = .ok (.invokevirtual 33, 3) := by decide +kernel
theorem dX2_hasMarkOfDraft_19 : decode cX2_hasMarkOfDraft 19 = .ok (.iconst 0, 1) := by decide +kernel
theorem dX2_hasMarkOfDraft_20 : decode cX2_hasMarkOfDraft 20 = .ok (.invokevirtual 37, 3) := by decide +kernel
theorem dX2_hasMarkOfDraft_23 : decode cX2_hasMarkOfDraft 23 = .ok (.ifCond .ne 5, 3) := by decide +kernel
theorem dX2_hasMarkOfDraft_26 : decode cX2_hasMarkOfDraft 26 = .ok (.iconst 1, 1) := by decide +kernel
theorem dX2_hasMarkOfDraft_27 : decode cX2_hasMarkOfDraft 27 = .ok (.ireturn, 1) := by decide +kernel
theorem dX2_hasMarkOfDraft_28 : decode cX2_hasMarkOfDraft 28 = .ok (.iinc 1 1, 3) := by decide +kernel
theorem dX2_hasMarkOfDraft_31 : decode cX2_hasMarkOfDraft 31 = .ok (.goto (-29), 3) := by decide +kernel
theorem dX2_hasMarkOfDraft_34 : decode cX2_hasMarkOfDraft 34 = .ok (.iconst 0, 1) := by decide +kernel
theorem dX2_hasMarkOfDraft_35 : decode cX2_hasMarkOfDraft 35 = .ok (.ireturn, 1) := by decide +kernel
set_option maxHeartbeats 4000000 in
set_option maxRecDepth 100000 in
theorem kX2_hasMarkOfDraft (l : Launch) (z : Nat) (D : va_G) (cA : Nat → ClassId) (a0 : Nat) (M : Mem) (K : Int32 → Prop) (h : PX2_hasMarkOfDraft a0 M K) : Met l yX2_hasMarkOfDraft (.code yX2_hasMarkOfDraft cX2_hasMarkOfDraft 2 (some .boolean) :: gtbl) ({ frames := 2, cells := 0, slots := 0, locals := 47 } : Room) (va_Pc [.ref a0] (xB z D cA M)) (va_Qi (fun r M1 => M1 = M ∧ K r) (xWd z D cA) (xA z)) 0 0 (xA z) := by
  refine x_met (by decide +kernel) (Nat.le_of_ble_eq_true rfl) (L0 := [(0, .ref a0)]) rfl ?_
  intro p e s m args below meth c E hr hlk hnm
  have E : xE RX2 cX2_hasMarkOfDraft 2 D cA p s m args c := E
  replace h := h.2
  refine x_iconst (v := (J 0)) E dX2_hasMarkOfDraft_0 (by decide) ?_
  refine x_istore_n (L' := [(1, .int (J 0)), (0, .ref a0)]) E dX2_hasMarkOfDraft_1 rfl (by decide) rfl ?_
  refine x_sub (L' := [(0, .ref a0), (1, .int (J 0))]) [1, 0] rfl ?_
  refine lp_sound (T := fun sv => xG p l e ({ frames := 2, cells := 0, slots := 0, locals := 47 } : Room) s m args below meth c (MQ below (va_Qi (fun r M1 => M1 = M ∧ K r) (xWd z D cA) (xA z)) args s 0 0 (xA z)) 2 z D cA M (0) (0) 2 [(0, .ref a0), (1, .int sv)] []) ?_ (J 0) h
  clear h
  intro kc2 hk2 sv h
  obtain ⟨x1, esv⟩ : ∃ y, y = sv := ⟨_, rfl⟩
  subst esv
  replace h : CX2_hasMarkOfDraft_2 K M a0 kc2 x1 := h
  try dsimp only
  refine x_iload_n E dX2_hasMarkOfDraft_2 rfl 1 rfl ?_
  refine x_aload_n E dX2_hasMarkOfDraft_3 rfl 0 rfl ?_
  obtain ⟨hT, v1, hv, h⟩ := h
  refine x_get E flX2_26 dX2_hasMarkOfDraft_4 hT hv ?_
  clear hT hv
  refine x_icmp_ge (tgt := 34) E dX2_hasMarkOfDraft_7 (by decide) (fun c2 => ?_) (fun c2 => ?_)
  · replace h := xbr_t h c2
    clear c2
    refine x_iconst (v := (J 0)) E dX2_hasMarkOfDraft_34 (by decide) ?_
    exact x_zret E hr hlk dX2_hasMarkOfDraft_35 h.1 ⟨rfl, h.2⟩
  · replace h := xbr_f h c2
    clear c2
    refine x_aload_n E dX2_hasMarkOfDraft_10 rfl 0 rfl ?_
    refine x_iload_n E dX2_hasMarkOfDraft_11 rfl 1 rfl ?_
    refine x_callVr (T := TX2) (N := 4) (t := 3) (As := [.int x1]) E mlX2_29 inX2_of seX2_of rfl ⟨by decide, by decide⟩ (tX2_of h) (kX2_of l z D cA a0 x1 M _ h) rfl ⟨rfl, rfl⟩ ⟨Nat.le_of_ble_eq_true rfl, Nat.le_of_ble_eq_true rfl⟩ ⟨(Nat.le_of_ble_eq_true rfl), (Nat.le_of_ble_eq_true rfl)⟩ (Nat.le_of_ble_eq_true rfl) rfl dX2_hasMarkOfDraft_12 (fun q3 h => ?_)
    refine x_aload_n E dX2_hasMarkOfDraft_15 rfl 0 rfl ?_
    refine x_callVr (T := TX2) (N := 4) (t := 3) (As := []) E mlX2_33 inX2_draft seX2_draft rfl ⟨by decide, by decide⟩ (tX2_draft h) (kX2_draft l z D cA a0 M _ h) rfl ⟨rfl, rfl⟩ ⟨Nat.le_of_ble_eq_true rfl, Nat.le_of_ble_eq_true rfl⟩ ⟨(Nat.le_of_ble_eq_true rfl), (Nat.le_of_ble_eq_true rfl)⟩ (Nat.le_of_ble_eq_true rfl) rfl dX2_hasMarkOfDraft_16 (fun q5 h => ?_)
    refine x_iconst (v := (J 0)) E dX2_hasMarkOfDraft_19 (by decide) ?_
    refine x_callVi (T := TX0) (N := 12) (t := 1) (As := [.ref q5, .int (J 0)]) E mlX2_37 inX0_compareBy seX0_compareBy rfl ⟨by decide, by decide⟩ (tX0_compareBy h) (kX0_compareBy l z D cA q3 q5 (J 0) M _ h) rfl ⟨rfl, rfl⟩ ⟨Nat.le_of_ble_eq_true rfl, Nat.le_of_ble_eq_true rfl⟩ ⟨(Nat.le_of_ble_eq_true rfl), (Nat.le_of_ble_eq_true rfl)⟩ (Nat.le_of_ble_eq_true rfl) rfl dX2_hasMarkOfDraft_20 (x_pure (fun r7 h => ?_))
    refine x_if_ne (tgt := 28) E dX2_hasMarkOfDraft_23 (by decide) (fun c9 => ?_) (fun c9 => ?_)
    · replace h := xbr_f h c9
      clear c9
      refine x_iinc (v := (x1 + (J 1))) (L' := [(1, .int (x1 + (J 1))), (0, .ref a0)]) E dX2_hasMarkOfDraft_28 1 rfl rfl (by decide) rfl ?_
      refine x_goto (tgt := 2) E dX2_hasMarkOfDraft_31 (by decide) ?_
      refine x_sub (L' := [(0, .ref a0), (1, .int (x1 + (J 1)))]) [1, 0] rfl ?_
      exact hk2 (x1 + (J 1)) h
    · replace h := xbr_t h c9
      clear c9
      refine x_iconst (v := (J 1)) E dX2_hasMarkOfDraft_26 (by decide) ?_
      exact x_zret E hr hlk dX2_hasMarkOfDraft_27 h.1 ⟨rfl, h.2⟩
theorem dX2_endDraft_0 : decode cX2_endDraft 0 = .ok (.aload_n 0, 1) := by decide +kernel
theorem dX2_endDraft_1 : decode cX2_endDraft 1 = .ok (.dup, 1) := by decide +kernel
theorem dX2_endDraft_2 : decode cX2_endDraft 2 = .ok (.getfield 26, 3) := by decide +kernel
theorem dX2_endDraft_5 : decode cX2_endDraft 5 = .ok (.iconst 1, 1) := by decide +kernel
theorem dX2_endDraft_6 : decode cX2_endDraft 6 = .ok (.iadd, 1) := by decide +kernel
theorem dX2_endDraft_7 : decode cX2_endDraft 7 = .ok (.putfield 26, 3) := by decide +kernel
theorem dX2_endDraft_10 : decode cX2_endDraft 10 = .ok (.return_, 1) := by decide +kernel
set_option maxHeartbeats 4000000 in
set_option maxRecDepth 100000 in
theorem kX2_endDraft (l : Launch) (z : Nat) (D : va_G) (cA : Nat → ClassId) (a0 : Nat) (M : Mem) (K : Mem → Prop) (h : PX2_endDraft a0 M K) : Met l yX2_endDraft (.code yX2_endDraft cX2_endDraft 1 none :: gtbl) ({ frames := 0, cells := 0, slots := 0, locals := 0 } : Room) (va_Pc [.ref a0] (xB z D cA M)) (va_Qv K (xWd z D cA) (xA z)) 0 0 (xA z) := by
  refine x_met (by decide +kernel) (Nat.le_of_ble_eq_true rfl) (L0 := [(0, .ref a0)]) rfl ?_
  intro p e s m args below meth c E hr hlk hnm
  have E : xE RX2 cX2_endDraft 1 D cA p s m args c := E
  replace h := h.2
  refine x_aload_n E dX2_endDraft_0 rfl 0 rfl ?_
  refine x_dup E dX2_endDraft_1 rfl ?_
  obtain ⟨hT, v1, hv, h⟩ := h
  refine x_get E flX2_26 dX2_endDraft_2 hT hv ?_
  clear hT hv
  refine x_iconst (v := (J 1)) E dX2_endDraft_5 (by decide) ?_
  refine x_iadd E dX2_endDraft_6 ?_
  obtain ⟨hT, h⟩ := h
  refine x_put E flX2_26 ⟨tyX2_ok, nmX2, rfl⟩ (by decide +kernel) rfl rfl dX2_endDraft_7 hT (fun M2 eM2 => ?_)
  replace h := h M2 eM2
  clear hT eM2
  exact x_vret E hr hlk dX2_endDraft_10 h
theorem dX2_acceptDrafts_0 : decode cX2_acceptDrafts 0 = .ok (.aload_n 0, 1) := by decide +kernel
theorem dX2_acceptDrafts_1 : decode cX2_acceptDrafts 1 = .ok (.aload_n 0, 1) := by decide +kernel
theorem dX2_acceptDrafts_2 : decode cX2_acceptDrafts 2 = .ok (.getfield 26, 3) := by decide +kernel
theorem dX2_acceptDrafts_5 : decode cX2_acceptDrafts 5 = .ok (.putfield 22, 3) := by decide +kernel
theorem dX2_acceptDrafts_8 : decode cX2_acceptDrafts 8 = .ok (.return_, 1) := by decide +kernel
set_option maxHeartbeats 4000000 in
set_option maxRecDepth 100000 in
theorem kX2_acceptDrafts (l : Launch) (z : Nat) (D : va_G) (cA : Nat → ClassId) (a0 : Nat) (M : Mem) (K : Mem → Prop) (h : PX2_acceptDrafts a0 M K) : Met l yX2_acceptDrafts (.code yX2_acceptDrafts cX2_acceptDrafts 1 none :: gtbl) ({ frames := 0, cells := 0, slots := 0, locals := 0 } : Room) (va_Pc [.ref a0] (xB z D cA M)) (va_Qv K (xWd z D cA) (xA z)) 0 0 (xA z) := by
  refine x_met (by decide +kernel) (Nat.le_of_ble_eq_true rfl) (L0 := [(0, .ref a0)]) rfl ?_
  intro p e s m args below meth c E hr hlk hnm
  have E : xE RX2 cX2_acceptDrafts 1 D cA p s m args c := E
  replace h := h.2
  refine x_aload_n E dX2_acceptDrafts_0 rfl 0 rfl ?_
  refine x_aload_n E dX2_acceptDrafts_1 rfl 0 rfl ?_
  obtain ⟨hT, v1, hv, h⟩ := h
  refine x_get E flX2_26 dX2_acceptDrafts_2 hT hv ?_
  clear hT hv
  obtain ⟨hT, h⟩ := h
  refine x_put E flX2_22 ⟨tyX2_ok, nmX2, rfl⟩ (by decide +kernel) rfl rfl dX2_acceptDrafts_5 hT (fun M2 eM2 => ?_)
  replace h := h M2 eM2
  clear hT eM2
  exact x_vret E hr hlk dX2_acceptDrafts_8 h
theorem dX2_dropDrafts_0 : decode cX2_dropDrafts 0 = .ok (.aload_n 0, 1) := by decide +kernel
theorem dX2_dropDrafts_1 : decode cX2_dropDrafts 1 = .ok (.aload_n 0, 1) := by decide +kernel
theorem dX2_dropDrafts_2 : decode cX2_dropDrafts 2 = .ok (.getfield 22, 3) := by decide +kernel
theorem dX2_dropDrafts_5 : decode cX2_dropDrafts 5 = .ok (.putfield 26, 3) := by decide +kernel
theorem dX2_dropDrafts_8 : decode cX2_dropDrafts 8 = .ok (.return_, 1) := by decide +kernel
set_option maxHeartbeats 4000000 in
set_option maxRecDepth 100000 in
theorem kX2_dropDrafts (l : Launch) (z : Nat) (D : va_G) (cA : Nat → ClassId) (a0 : Nat) (M : Mem) (K : Mem → Prop) (h : PX2_dropDrafts a0 M K) : Met l yX2_dropDrafts (.code yX2_dropDrafts cX2_dropDrafts 1 none :: gtbl) ({ frames := 0, cells := 0, slots := 0, locals := 0 } : Room) (va_Pc [.ref a0] (xB z D cA M)) (va_Qv K (xWd z D cA) (xA z)) 0 0 (xA z) := by
  refine x_met (by decide +kernel) (Nat.le_of_ble_eq_true rfl) (L0 := [(0, .ref a0)]) rfl ?_
  intro p e s m args below meth c E hr hlk hnm
  have E : xE RX2 cX2_dropDrafts 1 D cA p s m args c := E
  replace h := h.2
  refine x_aload_n E dX2_dropDrafts_0 rfl 0 rfl ?_
  refine x_aload_n E dX2_dropDrafts_1 rfl 0 rfl ?_
  obtain ⟨hT, v1, hv, h⟩ := h
  refine x_get E flX2_22 dX2_dropDrafts_2 hT hv ?_
  clear hT hv
  obtain ⟨hT, h⟩ := h
  refine x_put E flX2_26 ⟨tyX2_ok, nmX2, rfl⟩ (by decide +kernel) rfl rfl dX2_dropDrafts_5 hT (fun M2 eM2 => ?_)
  replace h := h M2 eM2
  clear hT eM2
  exact x_vret E hr hlk dX2_dropDrafts_8 h
theorem dX2_isAhead_0 : decode cX2_isAhead 0 = .ok (.aload_n 0, 1) := by decide +kernel
theorem dX2_isAhead_1 : decode cX2_isAhead 1 = .ok (.iload_n 1, 1) := by decide +kernel
theorem dX2_isAhead_2 : decode cX2_isAhead 2 = .ok (.invokevirtual 29, 3) := by decide +kernel
theorem dX2_isAhead_5 : decode cX2_isAhead 5 = .ok (.aload_n 0, 1) := by decide +kernel
theorem dX2_isAhead_6 : decode cX2_isAhead 6 = .ok (.iload_n 2, 1) := by decide +kernel
theorem dX2_isAhead_7 : decode cX2_isAhead 7 = .ok (.invokevirtual 29, 3) := by decide +kernel
theorem dX2_isAhead_10 : decode cX2_isAhead 10 = .ok (.iload_n 3, 1) := by decide +kernel
theorem dX2_isAhead_11 : decode cX2_isAhead 11 = .ok (.invokevirtual 37, 3) := by decide +kernel
theorem dX2_isAhead_14 : decode cX2_isAhead 14 = .ok (.istore 4, 2) := by decide +kernel
theorem dX2_isAhead_16 : decode cX2_isAhead 16 = .ok (.iload 4, 2) := by decide +kernel
theorem dX2_isAhead_18 : decode cX2_isAhead 18 = .ok (.ifCond .eq 16, 3) := by decide +kernel
theorem dX2_isAhead_21 : decode cX2_isAhead 21 = .ok (.iload 4, 2) := by decide +kernel
theorem dX2_isAhead_23 : decode cX2_isAhead 23 = .ok (.ifCond .ge 7, 3) := by decide +kernel
theorem dX2_isAhead_26 : decode cX2_isAhead 26 = .ok (.iconst 1, 1) := by decide +kernel
theorem dX2_isAhead_27 : decode cX2_isAhead 27 = .ok (.goto 17, 3) := by decide +kernel
theorem dX2_isAhead_30 : decode cX2_isAhead 30 = .ok (.iconst 0, 1) := by decide +kernel
theorem dX2_isAhead_31 : decode cX2_isAhead 31 = .ok (.goto 13, 3) := by decide +kernel
theorem dX2_isAhead_34 : decode cX2_isAhead 34 = .ok (.iload_n 1, 1) := by decide +kernel
theorem dX2_isAhead_35 : decode cX2_isAhead 35 = .ok (.iload_n 2, 1) := by decide +kernel
theorem dX2_isAhead_36 : decode cX2_isAhead 36 = .ok (.if_icmp .ge 7, 3) := by decide +kernel
theorem dX2_isAhead_39 : decode cX2_isAhead 39 = .ok (.iconst 1, 1) := by decide +kernel
theorem dX2_isAhead_40 : decode cX2_isAhead 40 = .ok (.goto 4, 3) := by decide +kernel
theorem dX2_isAhead_43 : decode cX2_isAhead 43 = .ok (.iconst 0, 1) := by decide +kernel
theorem dX2_isAhead_44 : decode cX2_isAhead 44 = .ok (.ireturn, 1) := by decide +kernel
set_option maxHeartbeats 4000000 in
set_option maxRecDepth 100000 in
theorem kX2_isAhead (l : Launch) (z : Nat) (D : va_G) (cA : Nat → ClassId) (a0 : Nat) (x1 : Int32) (x2 : Int32) (x3 : Int32) (M : Mem) (K : Int32 → Prop) (h : PX2_isAhead a0 x1 x2 x3 M K) : Met l yX2_isAhead (.code yX2_isAhead cX2_isAhead 5 (some .boolean) :: gtbl) ({ frames := 2, cells := 0, slots := 0, locals := 47 } : Room) (va_Pc [.ref a0, .int x1, .int x2, .int x3] (xB z D cA M)) (va_Qi (fun r M1 => M1 = M ∧ K r) (xWd z D cA) (xA z)) 0 0 (xA z) := by
  refine x_met (by decide +kernel) (Nat.le_of_ble_eq_true rfl) (L0 := [(0, .ref a0), (1, .int x1), (2, .int x2), (3, .int x3)]) rfl ?_
  intro p e s m args below meth c E hr hlk hnm
  have E : xE RX2 cX2_isAhead 5 D cA p s m args c := E
  replace h := h.2
  refine x_aload_n E dX2_isAhead_0 rfl 0 rfl ?_
  refine x_iload_n E dX2_isAhead_1 rfl 1 rfl ?_
  refine x_callVr (T := TX2) (N := 4) (t := 3) (As := [.int x1]) E mlX2_29 inX2_of seX2_of rfl ⟨by decide, by decide⟩ (tX2_of h) (kX2_of l z D cA a0 x1 M _ h) rfl ⟨rfl, rfl⟩ ⟨Nat.le_of_ble_eq_true rfl, Nat.le_of_ble_eq_true rfl⟩ ⟨(Nat.le_of_ble_eq_true rfl), (Nat.le_of_ble_eq_true rfl)⟩ (Nat.le_of_ble_eq_true rfl) rfl dX2_isAhead_2 (fun q1 h => ?_)
  refine x_aload_n E dX2_isAhead_5 rfl 0 rfl ?_
  refine x_iload_n E dX2_isAhead_6 rfl 2 rfl ?_
  refine x_callVr (T := TX2) (N := 4) (t := 3) (As := [.int x2]) E mlX2_29 inX2_of seX2_of rfl ⟨by decide, by decide⟩ (tX2_of h) (kX2_of l z D cA a0 x2 M _ h) rfl ⟨rfl, rfl⟩ ⟨Nat.le_of_ble_eq_true rfl, Nat.le_of_ble_eq_true rfl⟩ ⟨(Nat.le_of_ble_eq_true rfl), (Nat.le_of_ble_eq_true rfl)⟩ (Nat.le_of_ble_eq_true rfl) rfl dX2_isAhead_7 (fun q3 h => ?_)
  refine x_iload_n E dX2_isAhead_10 rfl 3 rfl ?_
  refine x_callVi (T := TX0) (N := 12) (t := 1) (As := [.ref q3, .int x3]) E mlX2_37 inX0_compareBy seX0_compareBy rfl ⟨by decide, by decide⟩ (tX0_compareBy h) (kX0_compareBy l z D cA q1 q3 x3 M _ h) rfl ⟨rfl, rfl⟩ ⟨Nat.le_of_ble_eq_true rfl, Nat.le_of_ble_eq_true rfl⟩ ⟨(Nat.le_of_ble_eq_true rfl), (Nat.le_of_ble_eq_true rfl)⟩ (Nat.le_of_ble_eq_true rfl) rfl dX2_isAhead_11 (x_pure (fun r5 h => ?_))
  refine x_istore (L' := [(4, .int r5), (0, .ref a0), (1, .int x1), (2, .int x2), (3, .int x3)]) E dX2_isAhead_14 (by decide) rfl ?_
  refine x_iload E dX2_isAhead_16 0 rfl ?_
  refine x_if_eq (tgt := 34) E dX2_isAhead_18 (by decide) (fun c7 => ?_) (fun c7 => ?_)
  · replace h := xbr_t h c7
    clear c7
    refine x_iload_n E dX2_isAhead_34 rfl 2 rfl ?_
    refine x_iload_n E dX2_isAhead_35 rfl 3 rfl ?_
    refine x_icmp_ge (tgt := 43) E dX2_isAhead_36 (by decide) (fun c8 => ?_) (fun c8 => ?_)
    · replace h := xbr_t h c8
      clear c8
      refine x_iconst (v := (J 0)) E dX2_isAhead_43 (by decide) ?_
      exact x_zret E hr hlk dX2_isAhead_44 h.1 ⟨rfl, h.2⟩
    · replace h := xbr_f h c8
      clear c8
      refine x_iconst (v := (J 1)) E dX2_isAhead_39 (by decide) ?_
      refine x_goto (tgt := 44) E dX2_isAhead_40 (by decide) ?_
      exact x_zret E hr hlk dX2_isAhead_44 h.1 ⟨rfl, h.2⟩
  · replace h := xbr_f h c7
    clear c7
    refine x_iload E dX2_isAhead_21 0 rfl ?_
    refine x_if_ge (tgt := 30) E dX2_isAhead_23 (by decide) (fun c9 => ?_) (fun c9 => ?_)
    · replace h := xbr_t h c9
      clear c9
      refine x_iconst (v := (J 0)) E dX2_isAhead_30 (by decide) ?_
      refine x_goto (tgt := 44) E dX2_isAhead_31 (by decide) ?_
      exact x_zret E hr hlk dX2_isAhead_44 h.1 ⟨rfl, h.2⟩
    · replace h := xbr_f h c9
      clear c9
      refine x_iconst (v := (J 1)) E dX2_isAhead_26 (by decide) ?_
      refine x_goto (tgt := 44) E dX2_isAhead_27 (by decide) ?_
      exact x_zret E hr hlk dX2_isAhead_44 h.1 ⟨rfl, h.2⟩
theorem dX10_write_0 : decode cX10_write 0 = .ok (.iload_n 1, 1) := by decide +kernel
theorem dX10_write_1 : decode cX10_write 1 = .ok (.ifCond .lt 13, 3) := by decide +kernel
theorem dX10_write_4 : decode cX10_write 4 = .ok (.iload_n 1, 1) := by decide +kernel
theorem dX10_write_5 : decode cX10_write 5 = .ok (.aload_n 0, 1) := by decide +kernel
theorem dX10_write_6 : decode cX10_write 6 = .ok (.arraylength, 1) := by decide +kernel
theorem dX10_write_7 : decode cX10_write 7 = .ok (.if_icmp .ge 7, 3) := by decide +kernel
theorem dX10_write_10 : decode cX10_write 10 = .ok (.aload_n 0, 1) := by decide +kernel
theorem dX10_write_11 : decode cX10_write 11 = .ok (.iload_n 1, 1) := by decide +kernel
theorem dX10_write_12 : decode cX10_write 12 = .ok (.iload_n 2, 1) := by decide +kernel
theorem dX10_write_13 : decode cX10_write 13 = .ok (.iastore, 1) := by decide +kernel
theorem dX10_write_14 : decode cX10_write 14 = .ok (.return_, 1) := by decide +kernel
set_option maxHeartbeats 4000000 in
set_option maxRecDepth 100000 in
theorem kX10_write (l : Launch) (z : Nat) (D : va_G) (cA : Nat → ClassId) (a0 : Nat) (x1 : Int32) (x2 : Int32) (M : Mem) (K : Mem → Prop) (h : PX10_write a0 x1 x2 M K) : Met l yX10_write (.code yX10_write cX10_write 3 none :: gtbl) ({ frames := 0, cells := 0, slots := 0, locals := 0 } : Room) (va_Pc [.ref a0, .int x1, .int x2] (xB z D cA M)) (va_Qv K (xWd z D cA) (xA z)) 0 0 (xA z) := by
  refine x_met (by decide +kernel) (Nat.le_of_ble_eq_true rfl) (L0 := [(0, .ref a0), (1, .int x1), (2, .int x2)]) rfl ?_
  intro p e s m args below meth c E hr hlk hnm
  have E : xE RX10 cX10_write 3 D cA p s m args c := E
  refine x_iload_n E dX10_write_0 rfl 1 rfl ?_
  refine x_if_lt (tgt := 14) E dX10_write_1 (by decide) (fun c1 => ?_) (fun c1 => ?_)
  · replace h := xbr_t h c1
    clear c1
    exact x_vret E hr hlk dX10_write_14 h
  · replace h := xbr_f h c1
    clear c1
    refine x_iload_n E dX10_write_4 rfl 1 rfl ?_
    refine x_aload_n E dX10_write_5 rfl 0 rfl ?_
    obtain ⟨hT, h⟩ := h
    refine x_alen (q := 0) E rfl dX10_write_6 hT (fun v2 ev2 => ?_)
    replace h := h v2 ev2
    clear hT ev2
    refine x_icmp_ge (tgt := 14) E dX10_write_7 (by decide) (fun c3 => ?_) (fun c3 => ?_)
    · replace h := xbr_t h c3
      clear c3
      exact x_vret E hr hlk dX10_write_14 h
    · replace h := xbr_f h c3
      clear c3
      refine x_aload_n E dX10_write_10 rfl 0 rfl ?_
      refine x_iload_n E dX10_write_11 rfl 1 rfl ?_
      refine x_iload_n E dX10_write_12 rfl 2 rfl ?_
      obtain ⟨hT, hi, h⟩ := h
      refine x_iast E dX10_write_13 hT hi (fun M4 eM4 => ?_)
      replace h := h M4 eM4
      clear hT hi eM4
      exact x_vret E hr hlk dX10_write_14 h
theorem dX3_init_0 : decode cX3_init 0 = .ok (.aload_n 0, 1) := by decide +kernel
theorem dX3_init_1 : decode cX3_init 1 = .ok (.invokespecial 3, 3) := by decide +kernel
theorem dX3_init_4 : decode cX3_init 4 = .ok (.aload_n 0, 1) := by decide +kernel
theorem dX3_init_5 : decode cX3_init 5 = .ok (.iconst 5, 1) := by decide +kernel
theorem dX3_init_6 : decode cX3_init 6 = .ok (.newarray .int, 2) := by decide +kernel
theorem dX3_init_8 : decode cX3_init 8 = .ok (.putfield 9, 3) := by decide +kernel
theorem dX3_init_11 : decode cX3_init 11 = .ok (.iconst 0, 1) := by decide +kernel
theorem dX3_init_12 : decode cX3_init 12 = .ok (.istore_n 1, 1) := by decide +kernel
theorem dX3_init_13 : decode cX3_init 13 = .ok (.iload_n 1, 1) := by decide +kernel
theorem dX3_init_14 : decode cX3_init 14 = .ok (.iconst 5, 1) := by decide +kernel
theorem dX3_init_15 : decode cX3_init 15 = .ok (.if_icmp .ge 28, 3) := by decide +kernel
theorem dX3_init_18 : decode cX3_init 18 = .ok (.aload_n 0, 1) := by decide +kernel
theorem dX3_init_19 : decode cX3_init 19 = .ok (.getfield 9, 3) := by decide +kernel
theorem dX3_init_22 : decode cX3_init 22 = .ok (.iload_n 1, 1) := by decide +kernel
theorem dX3_init_23 : decode cX3_init 23 = .ok (.iload_n 1, 1) := by decide +kernel
theorem dX3_init_24 : decode cX3_init 24 = .ok (.ifCond .ne 8, 3) := by decide +kernel
theorem dX3_init_27 : decode cX3_init 27 = .ok (.bipush 60, 2) := by decide +kernel
theorem dX3_init_29 : decode cX3_init 29 = .ok (.goto 5, 3) := by decide +kernel
theorem dX3_init_32 : decode cX3_init 32 = .ok (.bipush 10, 2) := by decide +kernel
theorem dX3_init_34 : decode cX3_init 34 = .ok (.invokestatic 15, 3) := by decide +kernel
theorem dX3_init_37 : decode cX3_init 37 = .ok (.iinc 1 1, 3) := by decide +kernel
theorem dX3_init_40 : decode cX3_init 40 = .ok (.goto (-27), 3) := by decide +kernel
theorem dX3_init_43 : decode cX3_init 43 = .ok (.return_, 1) := by decide +kernel
set_option maxHeartbeats 4000000 in
set_option maxRecDepth 100000 in
theorem kX3_init (l : Launch) (z : Nat) (D : va_G) (cA : Nat → ClassId) (a0 : Nat) (M : Mem) (K : Mem → Prop) (h : PX3_init a0 M K) : Met l yX3_init (.code yX3_init cX3_init 2 none :: gtbl) ({ frames := 1, cells := 1, slots := 650, locals := 22 } : Room) (va_Pc [.ref a0] (xB z D cA M)) (va_Qv K (xWd z D cA) (xA z)) 1 650 (xA z) := by
  refine x_met (by decide +kernel) (Nat.le_of_ble_eq_true rfl) (L0 := [(0, .ref a0)]) rfl ?_
  intro p e s m args below meth c E hr hlk hnm
  have E : xE RX3 cX3_init 2 D cA p s m args c := E
  replace h := h.2
  refine x_aload_n E dX3_init_0 rfl 0 rfl ?_
  refine x_objInit E (gw 171 (by decide +kernel) rfl) (gw 21 (by decide +kernel) rfl) (gw 22 (by decide +kernel) rfl) dX3_init_1 (Nat.le_of_ble_eq_true rfl) (Nat.le_of_ble_eq_true rfl) ?_
  refine x_aload_n E dX3_init_4 rfl 0 rfl ?_
  refine x_iconst (v := (J 5)) E dX3_init_5 (by decide) ?_
  obtain ⟨hi, hN, h⟩ := h
  refine x_newa (q := 0) (N := 5) E (ty := .int) rfl rfl (fun _ h => by cases h) (gw 39 (by decide +kernel) rfl) hi hN (Nat.le_of_ble_eq_true rfl) (Nat.le_of_ble_eq_true rfl) (Nat.le_of_ble_eq_true rfl) dX3_init_6 (fun q1 M2 eq1 eM2 => ?_)
  replace h := h q1 M2 eq1 eM2
  clear eq1 eM2 hi hN
  obtain ⟨hT, h⟩ := h
  refine x_putF E flX3_9 (gw 173 (by decide +kernel) rfl) ⟨tyX3_ok, nmX3, rfl⟩ rfl hnm (by decide +kernel) rfl rfl dX3_init_8 hT (fun M3 eM3 => ?_)
  replace h := h M3 eM3
  clear hT eM3
  refine x_iconst (v := (J 0)) E dX3_init_11 (by decide) ?_
  refine x_istore_n (L' := [(1, .int (J 0)), (0, .ref a0)]) E dX3_init_12 rfl (by decide) rfl ?_
  refine x_sub (L' := [(0, .ref a0), (1, .int (J 0))]) [1, 0] rfl ?_
  refine lp_sound (T := fun sv => xG p l e ({ frames := 1, cells := 1, slots := 650, locals := 22 } : Room) s m args below meth c (MQ below (va_Qv K (xWd z D cA) (xA z)) args s 1 650 (xA z)) 2 z D cA sv.1 (0 + 1) (0 + 5) 13 [(0, .ref a0), (1, .int sv.2)] []) ?_ (M3, (J 0)) h
  clear h
  intro kc13 hk13 sv h
  obtain ⟨M, x1⟩ := sv
  replace h : CX3_init_13 K a0 kc13 M x1 := h
  try dsimp only
  have hJ34 : ∀ (M : Mem) (j1 : Int32) (s0 : Int32) (s1 : Int32) (s2 : Nat), JX3_init_34 K kc13 M a0 j1 s0 s1 s2 → xG p l e ({ frames := 1, cells := 1, slots := 650, locals := 22 } : Room) s m args below meth c (MQ below (va_Qv K (xWd z D cA) (xA z)) args s 1 650 (xA z)) 2 z D cA M (0 + 1) (0 + 5) 34 [(0, .ref a0), (1, .int j1)] [.int s0, .int s1, .ref s2] := by
    intro M j1 s0 s1 s2 h
    refine x_callSNv (As := [.ref s2, .int s1, .int s0]) E mlX3_15 stX10_write (kX10_write l z D cA s2 s1 s0 M _ h) rfl ⟨rfl, rfl⟩ ⟨Nat.le_of_ble_eq_true rfl, Nat.le_of_ble_eq_true rfl⟩ ⟨(Nat.le_of_ble_eq_true rfl), (Nat.le_of_ble_eq_true rfl)⟩ (Nat.le_of_ble_eq_true rfl) rfl dX3_init_34 (fun M8 h => ?_)
    refine x_iinc (v := (j1 + (J 1))) (L' := [(1, .int (j1 + (J 1))), (0, .ref a0)]) E dX3_init_37 1 rfl rfl (by decide) rfl ?_
    refine x_goto (tgt := 13) E dX3_init_40 (by decide) ?_
    refine x_sub (L' := [(0, .ref a0), (1, .int (j1 + (J 1)))]) [1, 0] rfl ?_
    exact hk13 (M8, (j1 + (J 1))) h
  refine x_iload_n E dX3_init_13 rfl 1 rfl ?_
  refine x_iconst (v := (J 5)) E dX3_init_14 (by decide) ?_
  refine x_icmp_ge (tgt := 43) E dX3_init_15 (by decide) (fun c4 => ?_) (fun c4 => ?_)
  · replace h := xbr_t h c4
    clear c4
    refine x_widen (k' := 1) (n' := 650) (Nat.le_of_ble_eq_true rfl) (Nat.le_of_ble_eq_true rfl) ?_
    exact x_vret E hr hlk dX3_init_43 h
  · replace h := xbr_f h c4
    clear c4
    refine x_aload_n E dX3_init_18 rfl 0 rfl ?_
    obtain ⟨hT, q5, hv, h⟩ := h
    refine x_get E flX3_9 dX3_init_19 hT hv ?_
    clear hT hv
    refine x_iload_n E dX3_init_22 rfl 1 rfl ?_
    refine x_iload_n E dX3_init_23 rfl 1 rfl ?_
    refine x_if_ne (tgt := 32) E dX3_init_24 (by decide) (fun c6 => ?_) (fun c6 => ?_)
    · replace h := xbr_f h c6
      clear c6
      refine x_bipush (v := (J 10)) E dX3_init_32 (by decide) ?_
      exact hJ34 M x1 (J 10) x1 q5 h
    · replace h := xbr_t h c6
      clear c6
      refine x_bipush (v := (J 60)) E dX3_init_27 (by decide) ?_
      refine x_goto (tgt := 34) E dX3_init_29 (by decide) ?_
      exact hJ34 M x1 (J 60) x1 q5 h
theorem dX10_entry_0 : decode cX10_entry 0 = .ok (.iload_n 1, 1) := by decide +kernel
theorem dX10_entry_1 : decode cX10_entry 1 = .ok (.ifCond .lt 15, 3) := by decide +kernel
theorem dX10_entry_4 : decode cX10_entry 4 = .ok (.iload_n 1, 1) := by decide +kernel
theorem dX10_entry_5 : decode cX10_entry 5 = .ok (.aload_n 0, 1) := by decide +kernel
theorem dX10_entry_6 : decode cX10_entry 6 = .ok (.arraylength, 1) := by decide +kernel
theorem dX10_entry_7 : decode cX10_entry 7 = .ok (.if_icmp .ge 9, 3) := by decide +kernel
theorem dX10_entry_10 : decode cX10_entry 10 = .ok (.aload_n 0, 1) := by decide +kernel
theorem dX10_entry_11 : decode cX10_entry 11 = .ok (.iload_n 1, 1) := by decide +kernel
theorem dX10_entry_12 : decode cX10_entry 12 = .ok (.iaload, 1) := by decide +kernel
theorem dX10_entry_13 : decode cX10_entry 13 = .ok (.goto 4, 3) := by decide +kernel
theorem dX10_entry_16 : decode cX10_entry 16 = .ok (.iconst (-1), 1) := by decide +kernel
theorem dX10_entry_17 : decode cX10_entry 17 = .ok (.ireturn, 1) := by decide +kernel
set_option maxHeartbeats 4000000 in
set_option maxRecDepth 100000 in
theorem kX10_entry (l : Launch) (z : Nat) (D : va_G) (cA : Nat → ClassId) (a0 : Nat) (x1 : Int32) (M : Mem) (K : Int32 → Prop) (h : PX10_entry a0 x1 M K) : Met l yX10_entry (.code yX10_entry cX10_entry 2 (some .int) :: gtbl) ({ frames := 0, cells := 0, slots := 0, locals := 0 } : Room) (va_Pc [.ref a0, .int x1] (xB z D cA M)) (va_Qi (fun r M1 => M1 = M ∧ K r) (xWd z D cA) (xA z)) 0 0 (xA z) := by
  refine x_met (by decide +kernel) (Nat.le_of_ble_eq_true rfl) (L0 := [(0, .ref a0), (1, .int x1)]) rfl ?_
  intro p e s m args below meth c E hr hlk hnm
  have E : xE RX10 cX10_entry 2 D cA p s m args c := E
  refine x_iload_n E dX10_entry_0 rfl 1 rfl ?_
  refine x_if_lt (tgt := 16) E dX10_entry_1 (by decide) (fun c1 => ?_) (fun c1 => ?_)
  · replace h := xbr_t h c1
    clear c1
    refine x_iconst (v := (J (-1))) E dX10_entry_16 (by decide) ?_
    exact x_iret E hr hlk dX10_entry_17 ⟨rfl, h⟩
  · replace h := xbr_f h c1
    clear c1
    refine x_iload_n E dX10_entry_4 rfl 1 rfl ?_
    refine x_aload_n E dX10_entry_5 rfl 0 rfl ?_
    obtain ⟨hT, h⟩ := h
    refine x_alen (q := 0) E rfl dX10_entry_6 hT (fun v2 ev2 => ?_)
    replace h := h v2 ev2
    clear hT ev2
    refine x_icmp_ge (tgt := 16) E dX10_entry_7 (by decide) (fun c3 => ?_) (fun c3 => ?_)
    · replace h := xbr_t h c3
      clear c3
      refine x_iconst (v := (J (-1))) E dX10_entry_16 (by decide) ?_
      exact x_iret E hr hlk dX10_entry_17 ⟨rfl, h⟩
    · replace h := xbr_f h c3
      clear c3
      refine x_aload_n E dX10_entry_10 rfl 0 rfl ?_
      refine x_iload_n E dX10_entry_11 rfl 1 rfl ?_
      obtain ⟨hT, hi, v4, hv, h⟩ := h
      refine x_iald E dX10_entry_12 hT hi hv ?_
      clear hT hi hv
      refine x_goto (tgt := 17) E dX10_entry_13 (by decide) ?_
      exact x_iret E hr hlk dX10_entry_17 ⟨rfl, h⟩
theorem dX3_weight_0 : decode cX3_weight 0 = .ok (.aload_n 0, 1) := by decide +kernel
theorem dX3_weight_1 : decode cX3_weight 1 = .ok (.getfield 9, 3) := by decide +kernel
theorem dX3_weight_4 : decode cX3_weight 4 = .ok (.iload_n 1, 1) := by decide +kernel
theorem dX3_weight_5 : decode cX3_weight 5 = .ok (.invokestatic 19, 3) := by decide +kernel
theorem dX3_weight_8 : decode cX3_weight 8 = .ok (.ireturn, 1) := by decide +kernel
set_option maxHeartbeats 4000000 in
set_option maxRecDepth 100000 in
theorem kX3_weight (l : Launch) (z : Nat) (D : va_G) (cA : Nat → ClassId) (a0 : Nat) (x1 : Int32) (M : Mem) (K : Int32 → Prop) (h : PX3_weight a0 x1 M K) : Met l yX3_weight (.code yX3_weight cX3_weight 2 (some .int) :: gtbl) ({ frames := 1, cells := 0, slots := 0, locals := 21 } : Room) (va_Pc [.ref a0, .int x1] (xB z D cA M)) (va_Qi (fun r M1 => M1 = M ∧ K r) (xWd z D cA) (xA z)) 0 0 (xA z) := by
  refine x_met (by decide +kernel) (Nat.le_of_ble_eq_true rfl) (L0 := [(0, .ref a0), (1, .int x1)]) rfl ?_
  intro p e s m args below meth c E hr hlk hnm
  have E : xE RX3 cX3_weight 2 D cA p s m args c := E
  replace h := h.2
  refine x_aload_n E dX3_weight_0 rfl 0 rfl ?_
  obtain ⟨hT, q1, hv, h⟩ := h
  refine x_get E flX3_9 dX3_weight_1 hT hv ?_
  clear hT hv
  refine x_iload_n E dX3_weight_4 rfl 1 rfl ?_
  refine x_callSNi (As := [.ref q1, .int x1]) E mlX3_19 stX10_entry (kX10_entry l z D cA q1 x1 M _ h) rfl ⟨rfl, rfl⟩ ⟨Nat.le_of_ble_eq_true rfl, Nat.le_of_ble_eq_true rfl⟩ ⟨(Nat.le_of_ble_eq_true rfl), (Nat.le_of_ble_eq_true rfl)⟩ (Nat.le_of_ble_eq_true rfl) rfl dX3_weight_5 (x_pure (fun r2 h => ?_))
  exact x_iret E hr hlk dX3_weight_8 ⟨rfl, h⟩
theorem dX3_weigh_0 : decode cX3_weigh 0 = .ok (.aload_n 0, 1) := by decide +kernel
theorem dX3_weigh_1 : decode cX3_weigh 1 = .ok (.getfield 9, 3) := by decide +kernel
theorem dX3_weigh_4 : decode cX3_weigh 4 = .ok (.iload_n 1, 1) := by decide +kernel
theorem dX3_weigh_5 : decode cX3_weigh 5 = .ok (.iload_n 2, 1) := by decide +kernel
theorem dX3_weigh_6 : decode cX3_weigh 6 = .ok (.invokestatic 15, 3) := by decide +kernel
theorem dX3_weigh_9 : decode cX3_weigh 9 = .ok (.return_, 1) := by decide +kernel
set_option maxHeartbeats 4000000 in
set_option maxRecDepth 100000 in
theorem kX3_weigh (l : Launch) (z : Nat) (D : va_G) (cA : Nat → ClassId) (a0 : Nat) (x1 : Int32) (x2 : Int32) (M : Mem) (K : Mem → Prop) (h : PX3_weigh a0 x1 x2 M K) : Met l yX3_weigh (.code yX3_weigh cX3_weigh 3 none :: gtbl) ({ frames := 1, cells := 0, slots := 0, locals := 22 } : Room) (va_Pc [.ref a0, .int x1, .int x2] (xB z D cA M)) (va_Qv K (xWd z D cA) (xA z)) 0 0 (xA z) := by
  refine x_met (by decide +kernel) (Nat.le_of_ble_eq_true rfl) (L0 := [(0, .ref a0), (1, .int x1), (2, .int x2)]) rfl ?_
  intro p e s m args below meth c E hr hlk hnm
  have E : xE RX3 cX3_weigh 3 D cA p s m args c := E
  replace h := h.2
  refine x_aload_n E dX3_weigh_0 rfl 0 rfl ?_
  obtain ⟨hT, q1, hv, h⟩ := h
  refine x_get E flX3_9 dX3_weigh_1 hT hv ?_
  clear hT hv
  refine x_iload_n E dX3_weigh_4 rfl 1 rfl ?_
  refine x_iload_n E dX3_weigh_5 rfl 2 rfl ?_
  refine x_callSNv (As := [.ref q1, .int x1, .int x2]) E mlX3_15 stX10_write (kX10_write l z D cA q1 x1 x2 M _ h) rfl ⟨rfl, rfl⟩ ⟨Nat.le_of_ble_eq_true rfl, Nat.le_of_ble_eq_true rfl⟩ ⟨(Nat.le_of_ble_eq_true rfl), (Nat.le_of_ble_eq_true rfl)⟩ (Nat.le_of_ble_eq_true rfl) rfl dX3_weigh_6 (fun M3 h => ?_)
  exact x_vret E hr hlk dX3_weigh_9 h
theorem dX3_total_0 : decode cX3_total 0 = .ok (.iconst 0, 1) := by decide +kernel
theorem dX3_total_1 : decode cX3_total 1 = .ok (.istore_n 1, 1) := by decide +kernel
theorem dX3_total_2 : decode cX3_total 2 = .ok (.iconst 0, 1) := by decide +kernel
theorem dX3_total_3 : decode cX3_total 3 = .ok (.istore_n 2, 1) := by decide +kernel
theorem dX3_total_4 : decode cX3_total 4 = .ok (.iload_n 2, 1) := by decide +kernel
theorem dX3_total_5 : decode cX3_total 5 = .ok (.iconst 5, 1) := by decide +kernel
theorem dX3_total_6 : decode cX3_total 6 = .ok (.if_icmp .ge 17, 3) := by decide +kernel
theorem dX3_total_9 : decode cX3_total 9 = .ok (.iload_n 1, 1) := by decide +kernel
theorem dX3_total_10 : decode cX3_total 10 = .ok (.aload_n 0, 1) := by decide +kernel
theorem dX3_total_11 : decode cX3_total 11 = .ok (.iload_n 2, 1) := by decide +kernel
theorem dX3_total_12 : decode cX3_total 12 = .ok (.invokevirtual 23, 3) := by decide +kernel
theorem dX3_total_15 : decode cX3_total 15 = .ok (.iadd, 1) := by decide +kernel
theorem dX3_total_16 : decode cX3_total 16 = .ok (.istore_n 1, 1) := by decide +kernel
theorem dX3_total_17 : decode cX3_total 17 = .ok (.iinc 2 1, 3) := by decide +kernel
theorem dX3_total_20 : decode cX3_total 20 = .ok (.goto (-16), 3) := by decide +kernel
theorem dX3_total_23 : decode cX3_total 23 = .ok (.iload_n 1, 1) := by decide +kernel
theorem dX3_total_24 : decode cX3_total 24 = .ok (.ireturn, 1) := by decide +kernel
set_option maxHeartbeats 4000000 in
set_option maxRecDepth 100000 in
theorem kX3_total (l : Launch) (z : Nat) (D : va_G) (cA : Nat → ClassId) (a0 : Nat) (M : Mem) (K : Int32 → Prop) (h : PX3_total a0 M K) : Met l yX3_total (.code yX3_total cX3_total 3 (some .int) :: gtbl) ({ frames := 2, cells := 0, slots := 0, locals := 42 } : Room) (va_Pc [.ref a0] (xB z D cA M)) (va_Qi (fun r M1 => M1 = M ∧ K r) (xWd z D cA) (xA z)) 0 0 (xA z) := by
  refine x_met (by decide +kernel) (Nat.le_of_ble_eq_true rfl) (L0 := [(0, .ref a0)]) rfl ?_
  intro p e s m args below meth c E hr hlk hnm
  have E : xE RX3 cX3_total 3 D cA p s m args c := E
  replace h := h.2
  refine x_iconst (v := (J 0)) E dX3_total_0 (by decide) ?_
  refine x_istore_n (L' := [(1, .int (J 0)), (0, .ref a0)]) E dX3_total_1 rfl (by decide) rfl ?_
  refine x_iconst (v := (J 0)) E dX3_total_2 (by decide) ?_
  refine x_istore_n (L' := [(2, .int (J 0)), (1, .int (J 0)), (0, .ref a0)]) E dX3_total_3 rfl (by decide) rfl ?_
  refine x_sub (L' := [(0, .ref a0), (1, .int (J 0)), (2, .int (J 0))]) [2, 1, 0] rfl ?_
  refine lp_sound (T := fun sv => xG p l e ({ frames := 2, cells := 0, slots := 0, locals := 42 } : Room) s m args below meth c (MQ below (va_Qi (fun r M1 => M1 = M ∧ K r) (xWd z D cA) (xA z)) args s 0 0 (xA z)) 3 z D cA M (0) (0) 4 [(0, .ref a0), (1, .int sv.1), (2, .int sv.2)] []) ?_ ((J 0), (J 0)) h
  clear h
  intro kc4 hk4 sv h
  obtain ⟨x1, x2⟩ := sv
  replace h : CX3_total_4 K M a0 kc4 x1 x2 := h
  try dsimp only
  refine x_iload_n E dX3_total_4 rfl 2 rfl ?_
  refine x_iconst (v := (J 5)) E dX3_total_5 (by decide) ?_
  refine x_icmp_ge (tgt := 23) E dX3_total_6 (by decide) (fun c1 => ?_) (fun c1 => ?_)
  · replace h := xbr_t h c1
    clear c1
    refine x_iload_n E dX3_total_23 rfl 1 rfl ?_
    exact x_iret E hr hlk dX3_total_24 ⟨rfl, h⟩
  · replace h := xbr_f h c1
    clear c1
    refine x_iload_n E dX3_total_9 rfl 1 rfl ?_
    refine x_aload_n E dX3_total_10 rfl 0 rfl ?_
    refine x_iload_n E dX3_total_11 rfl 2 rfl ?_
    refine x_callVi (T := TX3) (N := 1) (t := 4) (As := [.int x2]) E mlX3_23 inX3_weight seX3_weight rfl ⟨by decide, by decide⟩ (tX3_weight h) (kX3_weight l z D cA a0 x2 M _ h) rfl ⟨rfl, rfl⟩ ⟨Nat.le_of_ble_eq_true rfl, Nat.le_of_ble_eq_true rfl⟩ ⟨(Nat.le_of_ble_eq_true rfl), (Nat.le_of_ble_eq_true rfl)⟩ (Nat.le_of_ble_eq_true rfl) rfl dX3_total_12 (x_pure (fun r2 h => ?_))
    refine x_iadd E dX3_total_15 ?_
    obtain ⟨y4, ey4, h⟩ := h
    refine x_top (v := .int y4) (congrArg _ ey4) ?_
    clear ey4
    refine x_istore_n (L' := [(1, .int y4), (0, .ref a0), (2, .int x2)]) E dX3_total_16 rfl (by decide) rfl ?_
    refine x_iinc (v := (x2 + (J 1))) (L' := [(2, .int (x2 + (J 1))), (1, .int y4), (0, .ref a0)]) E dX3_total_17 2 rfl rfl (by decide) rfl ?_
    refine x_goto (tgt := 4) E dX3_total_20 (by decide) ?_
    refine x_sub (L' := [(0, .ref a0), (1, .int y4), (2, .int (x2 + (J 1)))]) [2, 1, 0] rfl ?_
    exact hk4 (y4, (x2 + (J 1))) h
theorem dX3_readingOf_0 : decode cX3_readingOf 0 = .ok (.iconst 0, 1) := by decide +kernel
theorem dX3_readingOf_1 : decode cX3_readingOf 1 = .ok (.istore_n 2, 1) := by decide +kernel
theorem dX3_readingOf_2 : decode cX3_readingOf 2 = .ok (.iconst 0, 1) := by decide +kernel
theorem dX3_readingOf_3 : decode cX3_readingOf 3 = .ok (.istore_n 3, 1) := by decide +kernel
theorem dX3_readingOf_4 : decode cX3_readingOf 4 = .ok (.iload_n 3, 1) := by decide +kernel
theorem dX3_readingOf_5 : decode cX3_readingOf 5 = .ok (.iconst 5, 1) := by decide +kernel
theorem dX3_readingOf_6 : decode cX3_readingOf 6 = .ok (.if_icmp .ge 24, 3) := by decide +kernel
theorem dX3_readingOf_9 : decode cX3_readingOf 9 = .ok (.iload_n 2, 1) := by decide +kernel
theorem dX3_readingOf_10 : decode cX3_readingOf 10 = .ok (.aload_n 0, 1) := by decide +kernel
theorem dX3_readingOf_11 : decode cX3_readingOf 11 = .ok (.iload_n 3, 1) := by decide +kernel
theorem dX3_readingOf_12 : decode cX3_readingOf 12 = .ok (.invokevirtual 23, 3) := by decide +kernel
theorem dX3_readingOf_15 : decode cX3_readingOf 15 = .ok (.iadd, 1) := by decide +kernel
theorem dX3_readingOf_16 : decode cX3_readingOf 16 = .ok (.istore_n 2, 1) := by decide +kernel
theorem dX3_readingOf_17 : decode cX3_readingOf 17 = .ok (.iload_n 2, 1) := by decide +kernel
theorem dX3_readingOf_18 : decode cX3_readingOf 18 = .ok (.iload_n 1, 1) := by decide +kernel
theorem dX3_readingOf_19 : decode cX3_readingOf 19 = .ok (.if_icmp .le 5, 3) := by decide +kernel
theorem dX3_readingOf_22 : decode cX3_readingOf 22 = .ok (.iload_n 3, 1) := by decide +kernel
theorem dX3_readingOf_23 : decode cX3_readingOf 23 = .ok (.ireturn, 1) := by decide +kernel
theorem dX3_readingOf_24 : decode cX3_readingOf 24 = .ok (.iinc 3 1, 3) := by decide +kernel
theorem dX3_readingOf_27 : decode cX3_readingOf 27 = .ok (.goto (-23), 3) := by decide +kernel
theorem dX3_readingOf_30 : decode cX3_readingOf 30 = .ok (.iconst 0, 1) := by decide +kernel
theorem dX3_readingOf_31 : decode cX3_readingOf 31 = .ok (.ireturn, 1) := by decide +kernel
set_option maxHeartbeats 4000000 in
set_option maxRecDepth 100000 in
theorem kX3_readingOf (l : Launch) (z : Nat) (D : va_G) (cA : Nat → ClassId) (a0 : Nat) (x1 : Int32) (M : Mem) (K : Int32 → Prop) (h : PX3_readingOf a0 x1 M K) : Met l yX3_readingOf (.code yX3_readingOf cX3_readingOf 4 (some .int) :: gtbl) ({ frames := 2, cells := 0, slots := 0, locals := 42 } : Room) (va_Pc [.ref a0, .int x1] (xB z D cA M)) (va_Qi (fun r M1 => M1 = M ∧ K r) (xWd z D cA) (xA z)) 0 0 (xA z) := by
  refine x_met (by decide +kernel) (Nat.le_of_ble_eq_true rfl) (L0 := [(0, .ref a0), (1, .int x1)]) rfl ?_
  intro p e s m args below meth c E hr hlk hnm
  have E : xE RX3 cX3_readingOf 4 D cA p s m args c := E
  replace h := h.2
  refine x_iconst (v := (J 0)) E dX3_readingOf_0 (by decide) ?_
  refine x_istore_n (L' := [(2, .int (J 0)), (0, .ref a0), (1, .int x1)]) E dX3_readingOf_1 rfl (by decide) rfl ?_
  refine x_iconst (v := (J 0)) E dX3_readingOf_2 (by decide) ?_
  refine x_istore_n (L' := [(3, .int (J 0)), (2, .int (J 0)), (0, .ref a0), (1, .int x1)]) E dX3_readingOf_3 rfl (by decide) rfl ?_
  refine x_sub (L' := [(0, .ref a0), (1, .int x1), (2, .int (J 0)), (3, .int (J 0))]) [2, 3, 1, 0] rfl ?_
  refine lp_sound (T := fun sv => xG p l e ({ frames := 2, cells := 0, slots := 0, locals := 42 } : Room) s m args below meth c (MQ below (va_Qi (fun r M1 => M1 = M ∧ K r) (xWd z D cA) (xA z)) args s 0 0 (xA z)) 4 z D cA M (0) (0) 4 [(0, .ref a0), (1, .int x1), (2, .int sv.1), (3, .int sv.2)] []) ?_ ((J 0), (J 0)) h
  clear h
  intro kc4 hk4 sv h
  obtain ⟨x2, x3⟩ := sv
  replace h : CX3_readingOf_4 K M a0 x1 kc4 x2 x3 := h
  try dsimp only
  refine x_iload_n E dX3_readingOf_4 rfl 3 rfl ?_
  refine x_iconst (v := (J 5)) E dX3_readingOf_5 (by decide) ?_
  refine x_icmp_ge (tgt := 30) E dX3_readingOf_6 (by decide) (fun c1 => ?_) (fun c1 => ?_)
  · replace h := xbr_t h c1
    clear c1
    refine x_iconst (v := (J 0)) E dX3_readingOf_30 (by decide) ?_
    exact x_iret E hr hlk dX3_readingOf_31 ⟨rfl, h⟩
  · replace h := xbr_f h c1
    clear c1
    refine x_iload_n E dX3_readingOf_9 rfl 2 rfl ?_
    refine x_aload_n E dX3_readingOf_10 rfl 0 rfl ?_
    refine x_iload_n E dX3_readingOf_11 rfl 3 rfl ?_
    refine x_callVi (T := TX3) (N := 1) (t := 4) (As := [.int x3]) E mlX3_23 inX3_weight seX3_weight rfl ⟨by decide, by decide⟩ (tX3_weight h) (kX3_weight l z D cA a0 x3 M _ h) rfl ⟨rfl, rfl⟩ ⟨Nat.le_of_ble_eq_true rfl, Nat.le_of_ble_eq_true rfl⟩ ⟨(Nat.le_of_ble_eq_true rfl), (Nat.le_of_ble_eq_true rfl)⟩ (Nat.le_of_ble_eq_true rfl) rfl dX3_readingOf_12 (x_pure (fun r2 h => ?_))
    refine x_iadd E dX3_readingOf_15 ?_
    obtain ⟨y4, ey4, h⟩ := h
    refine x_top (v := .int y4) (congrArg _ ey4) ?_
    clear ey4
    refine x_istore_n (L' := [(2, .int y4), (0, .ref a0), (1, .int x1), (3, .int x3)]) E dX3_readingOf_16 rfl (by decide) rfl ?_
    refine x_iload_n E dX3_readingOf_17 rfl 0 rfl ?_
    refine x_iload_n E dX3_readingOf_18 rfl 2 rfl ?_
    refine x_icmp_le (tgt := 24) E dX3_readingOf_19 (by decide) (fun c5 => ?_) (fun c5 => ?_)
    · replace h := xbr_t h c5
      clear c5
      refine x_iinc (v := (x3 + (J 1))) (L' := [(3, .int (x3 + (J 1))), (2, .int y4), (0, .ref a0), (1, .int x1)]) E dX3_readingOf_24 3 rfl rfl (by decide) rfl ?_
      refine x_goto (tgt := 4) E dX3_readingOf_27 (by decide) ?_
      refine x_sub (L' := [(0, .ref a0), (1, .int x1), (2, .int y4), (3, .int (x3 + (J 1)))]) [2, 3, 1, 0] rfl ?_
      exact hk4 (y4, (x3 + (J 1))) h
    · replace h := xbr_f h c5
      clear c5
      refine x_iload_n E dX3_readingOf_22 rfl 3 rfl ?_
      exact x_iret E hr hlk dX3_readingOf_23 ⟨rfl, h⟩
theorem dX6_bookAt_0 : decode cX6_bookAt 0 = .ok (.iload_n 1, 1) := by decide +kernel
theorem dX6_bookAt_1 : decode cX6_bookAt 1 = .ok (.ifCond .lt 29, 3) := by decide +kernel
theorem dX6_bookAt_4 : decode cX6_bookAt 4 = .ok (.iload_n 1, 1) := by decide +kernel
theorem dX6_bookAt_5 : decode cX6_bookAt 5 = .ok (.aload_n 0, 1) := by decide +kernel
theorem dX6_bookAt_6 : decode cX6_bookAt 6 = .ok (.getfield 21, 3) := by decide +kernel
theorem dX6_bookAt_9 : decode cX6_bookAt 9 = .ok (.if_icmp .ge 21, 3) := by decide +kernel
theorem dX6_bookAt_12 : decode cX6_bookAt 12 = .ok (.iload_n 1, 1) := by decide +kernel
theorem dX6_bookAt_13 : decode cX6_bookAt 13 = .ok (.aload_n 0, 1) := by decide +kernel
theorem dX6_bookAt_14 : decode cX6_bookAt 14 = .ok (.getfield 9, 3) := by decide +kernel
theorem dX6_bookAt_17 : decode cX6_bookAt 17 = .ok (.arraylength, 1) := by decide +kernel
theorem dX6_bookAt_18 : decode cX6_bookAt 18 = .ok (.if_icmp .ge 12, 3) := by decide +kernel
theorem dX6_bookAt_21 : decode cX6_bookAt 21 = .ok (.aload_n 0, 1) := by decide +kernel
theorem dX6_bookAt_22 : decode cX6_bookAt 22 = .ok (.getfield 9, 3) := by decide +kernel
theorem dX6_bookAt_25 : decode cX6_bookAt 25 = .ok (.iload_n 1, 1) := by decide +kernel
theorem dX6_bookAt_26 : decode cX6_bookAt 26 = .ok (.iaload, 1) := by decide +kernel
theorem dX6_bookAt_27 : decode cX6_bookAt 27 = .ok (.goto 4, 3) := by decide +kernel
theorem dX6_bookAt_30 : decode cX6_bookAt 30 = .ok (.iconst (-1), 1) := by decide +kernel
theorem dX6_bookAt_31 : decode cX6_bookAt 31 = .ok (.ireturn, 1) := by decide +kernel
set_option maxHeartbeats 4000000 in
set_option maxRecDepth 100000 in
theorem kX6_bookAt (l : Launch) (z : Nat) (D : va_G) (cA : Nat → ClassId) (a0 : Nat) (x1 : Int32) (M : Mem) (K : Int32 → Prop) (h : PX6_bookAt a0 x1 M K) : Met l yX6_bookAt (.code yX6_bookAt cX6_bookAt 2 (some .int) :: gtbl) ({ frames := 0, cells := 0, slots := 0, locals := 0 } : Room) (va_Pc [.ref a0, .int x1] (xB z D cA M)) (va_Qi (fun r M1 => M1 = M ∧ K r) (xWd z D cA) (xA z)) 0 0 (xA z) := by
  refine x_met (by decide +kernel) (Nat.le_of_ble_eq_true rfl) (L0 := [(0, .ref a0), (1, .int x1)]) rfl ?_
  intro p e s m args below meth c E hr hlk hnm
  have E : xE RX6 cX6_bookAt 2 D cA p s m args c := E
  replace h := h.2
  refine x_iload_n E dX6_bookAt_0 rfl 1 rfl ?_
  refine x_if_lt (tgt := 30) E dX6_bookAt_1 (by decide) (fun c1 => ?_) (fun c1 => ?_)
  · replace h := xbr_t h c1
    clear c1
    refine x_iconst (v := (J (-1))) E dX6_bookAt_30 (by decide) ?_
    exact x_iret E hr hlk dX6_bookAt_31 ⟨rfl, h⟩
  · replace h := xbr_f h c1
    clear c1
    refine x_iload_n E dX6_bookAt_4 rfl 1 rfl ?_
    refine x_aload_n E dX6_bookAt_5 rfl 0 rfl ?_
    obtain ⟨hT, v2, hv, h⟩ := h
    refine x_get E flX6_21 dX6_bookAt_6 hT hv ?_
    clear hT hv
    refine x_icmp_ge (tgt := 30) E dX6_bookAt_9 (by decide) (fun c3 => ?_) (fun c3 => ?_)
    · replace h := xbr_t h c3
      clear c3
      refine x_iconst (v := (J (-1))) E dX6_bookAt_30 (by decide) ?_
      exact x_iret E hr hlk dX6_bookAt_31 ⟨rfl, h⟩
    · replace h := xbr_f h c3
      clear c3
      refine x_iload_n E dX6_bookAt_12 rfl 1 rfl ?_
      refine x_aload_n E dX6_bookAt_13 rfl 0 rfl ?_
      obtain ⟨hT, q4, hv, h⟩ := h
      refine x_get E flX6_9 dX6_bookAt_14 hT hv ?_
      clear hT hv
      obtain ⟨hT, h⟩ := h
      refine x_alen (q := 0) E rfl dX6_bookAt_17 hT (fun v5 ev5 => ?_)
      replace h := h v5 ev5
      clear hT ev5
      refine x_icmp_ge (tgt := 30) E dX6_bookAt_18 (by decide) (fun c6 => ?_) (fun c6 => ?_)
      · replace h := xbr_t h c6
        clear c6
        refine x_iconst (v := (J (-1))) E dX6_bookAt_30 (by decide) ?_
        exact x_iret E hr hlk dX6_bookAt_31 ⟨rfl, h⟩
      · replace h := xbr_f h c6
        clear c6
        refine x_aload_n E dX6_bookAt_21 rfl 0 rfl ?_
        obtain ⟨hT, q7, hv, h⟩ := h
        refine x_get E flX6_9 dX6_bookAt_22 hT hv ?_
        clear hT hv
        refine x_iload_n E dX6_bookAt_25 rfl 1 rfl ?_
        obtain ⟨hT, hi, v8, hv, h⟩ := h
        refine x_iald E dX6_bookAt_26 hT hi hv ?_
        clear hT hi hv
        refine x_goto (tgt := 31) E dX6_bookAt_27 (by decide) ?_
        exact x_iret E hr hlk dX6_bookAt_31 ⟨rfl, h⟩
theorem dX6_spotFor_0 : decode cX6_spotFor 0 = .ok (.iconst 0, 1) := by decide +kernel
theorem dX6_spotFor_1 : decode cX6_spotFor 1 = .ok (.istore 4, 2) := by decide +kernel
theorem dX6_spotFor_3 : decode cX6_spotFor 3 = .ok (.iload 4, 2) := by decide +kernel
theorem dX6_spotFor_5 : decode cX6_spotFor 5 = .ok (.aload_n 0, 1) := by decide +kernel
theorem dX6_spotFor_6 : decode cX6_spotFor 6 = .ok (.getfield 21, 3) := by decide +kernel
theorem dX6_spotFor_9 : decode cX6_spotFor 9 = .ok (.if_icmp .ge 27, 3) := by decide +kernel
theorem dX6_spotFor_12 : decode cX6_spotFor 12 = .ok (.aload_n 1, 1) := by decide +kernel
theorem dX6_spotFor_13 : decode cX6_spotFor 13 = .ok (.aload_n 0, 1) := by decide +kernel
theorem dX6_spotFor_14 : decode cX6_spotFor 14 = .ok (.iload 4, 2) := by decide +kernel
theorem dX6_spotFor_16 : decode cX6_spotFor 16 = .ok (.invokevirtual 37, 3) := by decide +kernel
theorem dX6_spotFor_19 : decode cX6_spotFor 19 = .ok (.iload_n 2, 1) := by decide +kernel
theorem dX6_spotFor_20 : decode cX6_spotFor 20 = .ok (.iload_n 3, 1) := by decide +kernel
theorem dX6_spotFor_21 : decode cX6_spotFor 21 = .ok (.invokevirtual 53, 3) := by decide +kernel
theorem dX6_spotFor_24 : decode cX6_spotFor 24 = .ok (.ifCond .ne 6, 3) := by decide +kernel
theorem dX6_spotFor_27 : decode cX6_spotFor 27 = .ok (.iload 4, 2) := by decide +kernel
theorem dX6_spotFor_29 : decode cX6_spotFor 29 = .ok (.ireturn, 1) := by decide +kernel
theorem dX6_spotFor_30 : decode cX6_spotFor 30 = .ok (.iinc 4 1, 3) := by decide +kernel
theorem dX6_spotFor_33 : decode cX6_spotFor 33 = .ok (.goto (-30), 3) := by decide +kernel
theorem dX6_spotFor_36 : decode cX6_spotFor 36 = .ok (.aload_n 0, 1) := by decide +kernel
theorem dX6_spotFor_37 : decode cX6_spotFor 37 = .ok (.getfield 21, 3) := by decide +kernel
theorem dX6_spotFor_40 : decode cX6_spotFor 40 = .ok (.ireturn, 1) := by decide +kernel
set_option maxHeartbeats 4000000 in
set_option maxRecDepth 100000 in
theorem kX6_spotFor (l : Launch) (z : Nat) (D : va_G) (cA : Nat → ClassId) (a0 : Nat) (a1 : Nat) (x2 : Int32) (x3 : Int32) (M : Mem) (K : Int32 → Prop) (h : PX6_spotFor a0 a1 x2 x3 M K) : Met l yX6_spotFor (.code yX6_spotFor cX6_spotFor 5 (some .int) :: gtbl) ({ frames := 3, cells := 0, slots := 0, locals := 71 } : Room) (va_Pc [.ref a0, .ref a1, .int x2, .int x3] (xB z D cA M)) (va_Qi (fun r M1 => M1 = M ∧ K r) (xWd z D cA) (xA z)) 0 0 (xA z) := by
  refine x_met (by decide +kernel) (Nat.le_of_ble_eq_true rfl) (L0 := [(0, .ref a0), (1, .ref a1), (2, .int x2), (3, .int x3)]) rfl ?_
  intro p e s m args below meth c E hr hlk hnm
  have E : xE RX6 cX6_spotFor 5 D cA p s m args c := E
  replace h := h.2
  refine x_iconst (v := (J 0)) E dX6_spotFor_0 (by decide) ?_
  refine x_istore (L' := [(4, .int (J 0)), (0, .ref a0), (1, .ref a1), (2, .int x2), (3, .int x3)]) E dX6_spotFor_1 (by decide) rfl ?_
  refine x_sub (L' := [(0, .ref a0), (1, .ref a1), (2, .int x2), (3, .int x3), (4, .int (J 0))]) [1, 2, 3, 4, 0] rfl ?_
  refine lp_sound (T := fun sv => xG p l e ({ frames := 3, cells := 0, slots := 0, locals := 71 } : Room) s m args below meth c (MQ below (va_Qi (fun r M1 => M1 = M ∧ K r) (xWd z D cA) (xA z)) args s 0 0 (xA z)) 5 z D cA M (0) (0) 3 [(0, .ref a0), (1, .ref a1), (2, .int x2), (3, .int x3), (4, .int sv)] []) ?_ (J 0) h
  clear h
  intro kc3 hk3 sv h
  obtain ⟨x4, esv⟩ : ∃ y, y = sv := ⟨_, rfl⟩
  subst esv
  replace h : CX6_spotFor_3 K M a0 a1 x2 x3 kc3 x4 := h
  try dsimp only
  refine x_iload E dX6_spotFor_3 4 rfl ?_
  refine x_aload_n E dX6_spotFor_5 rfl 0 rfl ?_
  obtain ⟨hT, v1, hv, h⟩ := h
  refine x_get E flX6_21 dX6_spotFor_6 hT hv ?_
  clear hT hv
  refine x_icmp_ge (tgt := 36) E dX6_spotFor_9 (by decide) (fun c2 => ?_) (fun c2 => ?_)
  · replace h := xbr_t h c2
    clear c2
    refine x_aload_n E dX6_spotFor_36 rfl 0 rfl ?_
    obtain ⟨hT, v3, hv, h⟩ := h
    refine x_get E flX6_21 dX6_spotFor_37 hT hv ?_
    clear hT hv
    exact x_iret E hr hlk dX6_spotFor_40 ⟨rfl, h⟩
  · replace h := xbr_f h c2
    clear c2
    refine x_aload_n E dX6_spotFor_12 rfl 1 rfl ?_
    refine x_aload_n E dX6_spotFor_13 rfl 0 rfl ?_
    refine x_iload E dX6_spotFor_14 4 rfl ?_
    refine x_callVi (T := TX6) (N := 3) (t := 7) (As := [.int x4]) E mlX6_37 inX6_bookAt seX6_bookAt rfl ⟨by decide, by decide⟩ (tX6_bookAt h) (kX6_bookAt l z D cA a0 x4 M _ h) rfl ⟨rfl, rfl⟩ ⟨Nat.le_of_ble_eq_true rfl, Nat.le_of_ble_eq_true rfl⟩ ⟨(Nat.le_of_ble_eq_true rfl), (Nat.le_of_ble_eq_true rfl)⟩ (Nat.le_of_ble_eq_true rfl) rfl dX6_spotFor_16 (x_pure (fun r4 h => ?_))
    refine x_iload_n E dX6_spotFor_19 rfl 2 rfl ?_
    refine x_iload_n E dX6_spotFor_20 rfl 3 rfl ?_
    refine x_callVi (T := TX2) (N := 4) (t := 3) (As := [.int r4, .int x2, .int x3]) E mlX6_53 inX2_isAhead seX2_isAhead rfl ⟨by decide, by decide⟩ (tX2_isAhead h) (kX2_isAhead l z D cA a1 r4 x2 x3 M _ h) rfl ⟨rfl, rfl⟩ ⟨Nat.le_of_ble_eq_true rfl, Nat.le_of_ble_eq_true rfl⟩ ⟨(Nat.le_of_ble_eq_true rfl), (Nat.le_of_ble_eq_true rfl)⟩ (Nat.le_of_ble_eq_true rfl) rfl dX6_spotFor_21 (x_pure (fun r6 h => ?_))
    refine x_if_ne (tgt := 30) E dX6_spotFor_24 (by decide) (fun c8 => ?_) (fun c8 => ?_)
    · replace h := xbr_f h c8
      clear c8
      refine x_iinc (v := (x4 + (J 1))) (L' := [(4, .int (x4 + (J 1))), (0, .ref a0), (1, .ref a1), (2, .int x2), (3, .int x3)]) E dX6_spotFor_30 4 rfl rfl (by decide) rfl ?_
      refine x_goto (tgt := 3) E dX6_spotFor_33 (by decide) ?_
      refine x_sub (L' := [(0, .ref a0), (1, .ref a1), (2, .int x2), (3, .int x3), (4, .int (x4 + (J 1)))]) [1, 2, 3, 4, 0] rfl ?_
      exact hk3 (x4 + (J 1)) h
    · replace h := xbr_t h c8
      clear c8
      refine x_iload E dX6_spotFor_27 4 rfl ?_
      exact x_iret E hr hlk dX6_spotFor_29 ⟨rfl, h⟩
theorem dX6_shelfOf_0 : decode cX6_shelfOf 0 = .ok (.iload_n 1, 1) := by decide +kernel
theorem dX6_shelfOf_1 : decode cX6_shelfOf 1 = .ok (.ifCond .lt 21, 3) := by decide +kernel
theorem dX6_shelfOf_4 : decode cX6_shelfOf 4 = .ok (.iload_n 1, 1) := by decide +kernel
theorem dX6_shelfOf_5 : decode cX6_shelfOf 5 = .ok (.aload_n 0, 1) := by decide +kernel
theorem dX6_shelfOf_6 : decode cX6_shelfOf 6 = .ok (.getfield 15, 3) := by decide +kernel
theorem dX6_shelfOf_9 : decode cX6_shelfOf 9 = .ok (.arraylength, 1) := by decide +kernel
theorem dX6_shelfOf_10 : decode cX6_shelfOf 10 = .ok (.if_icmp .ge 12, 3) := by decide +kernel
theorem dX6_shelfOf_13 : decode cX6_shelfOf 13 = .ok (.aload_n 0, 1) := by decide +kernel
theorem dX6_shelfOf_14 : decode cX6_shelfOf 14 = .ok (.getfield 15, 3) := by decide +kernel
theorem dX6_shelfOf_17 : decode cX6_shelfOf 17 = .ok (.iload_n 1, 1) := by decide +kernel
theorem dX6_shelfOf_18 : decode cX6_shelfOf 18 = .ok (.iaload, 1) := by decide +kernel
theorem dX6_shelfOf_19 : decode cX6_shelfOf 19 = .ok (.goto 4, 3) := by decide +kernel
theorem dX6_shelfOf_22 : decode cX6_shelfOf 22 = .ok (.iconst (-1), 1) := by decide +kernel
theorem dX6_shelfOf_23 : decode cX6_shelfOf 23 = .ok (.ireturn, 1) := by decide +kernel
set_option maxHeartbeats 4000000 in
set_option maxRecDepth 100000 in
theorem kX6_shelfOf (l : Launch) (z : Nat) (D : va_G) (cA : Nat → ClassId) (a0 : Nat) (x1 : Int32) (M : Mem) (K : Int32 → Prop) (h : PX6_shelfOf a0 x1 M K) : Met l yX6_shelfOf (.code yX6_shelfOf cX6_shelfOf 2 (some .int) :: gtbl) ({ frames := 0, cells := 0, slots := 0, locals := 0 } : Room) (va_Pc [.ref a0, .int x1] (xB z D cA M)) (va_Qi (fun r M1 => M1 = M ∧ K r) (xWd z D cA) (xA z)) 0 0 (xA z) := by
  refine x_met (by decide +kernel) (Nat.le_of_ble_eq_true rfl) (L0 := [(0, .ref a0), (1, .int x1)]) rfl ?_
  intro p e s m args below meth c E hr hlk hnm
  have E : xE RX6 cX6_shelfOf 2 D cA p s m args c := E
  replace h := h.2
  refine x_iload_n E dX6_shelfOf_0 rfl 1 rfl ?_
  refine x_if_lt (tgt := 22) E dX6_shelfOf_1 (by decide) (fun c1 => ?_) (fun c1 => ?_)
  · replace h := xbr_t h c1
    clear c1
    refine x_iconst (v := (J (-1))) E dX6_shelfOf_22 (by decide) ?_
    exact x_iret E hr hlk dX6_shelfOf_23 ⟨rfl, h⟩
  · replace h := xbr_f h c1
    clear c1
    refine x_iload_n E dX6_shelfOf_4 rfl 1 rfl ?_
    refine x_aload_n E dX6_shelfOf_5 rfl 0 rfl ?_
    obtain ⟨hT, q2, hv, h⟩ := h
    refine x_get E flX6_15 dX6_shelfOf_6 hT hv ?_
    clear hT hv
    obtain ⟨hT, h⟩ := h
    refine x_alen (q := 0) E rfl dX6_shelfOf_9 hT (fun v3 ev3 => ?_)
    replace h := h v3 ev3
    clear hT ev3
    refine x_icmp_ge (tgt := 22) E dX6_shelfOf_10 (by decide) (fun c4 => ?_) (fun c4 => ?_)
    · replace h := xbr_t h c4
      clear c4
      refine x_iconst (v := (J (-1))) E dX6_shelfOf_22 (by decide) ?_
      exact x_iret E hr hlk dX6_shelfOf_23 ⟨rfl, h⟩
    · replace h := xbr_f h c4
      clear c4
      refine x_aload_n E dX6_shelfOf_13 rfl 0 rfl ?_
      obtain ⟨hT, q5, hv, h⟩ := h
      refine x_get E flX6_15 dX6_shelfOf_14 hT hv ?_
      clear hT hv
      refine x_iload_n E dX6_shelfOf_17 rfl 1 rfl ?_
      obtain ⟨hT, hi, v6, hv, h⟩ := h
      refine x_iald E dX6_shelfOf_18 hT hi hv ?_
      clear hT hi hv
      refine x_goto (tgt := 23) E dX6_shelfOf_19 (by decide) ?_
      exact x_iret E hr hlk dX6_shelfOf_23 ⟨rfl, h⟩
theorem dX6_shelfAtSpot_0 : decode cX6_shelfAtSpot 0 = .ok (.aload_n 0, 1) := by decide +kernel
theorem dX6_shelfAtSpot_1 : decode cX6_shelfAtSpot 1 = .ok (.getfield 21, 3) := by decide +kernel
theorem dX6_shelfAtSpot_4 : decode cX6_shelfAtSpot 4 = .ok (.ifCond .ne 5, 3) := by decide +kernel
theorem dX6_shelfAtSpot_7 : decode cX6_shelfAtSpot 7 = .ok (.iconst 0, 1) := by decide +kernel
theorem dX6_shelfAtSpot_8 : decode cX6_shelfAtSpot 8 = .ok (.ireturn, 1) := by decide +kernel
theorem dX6_shelfAtSpot_9 : decode cX6_shelfAtSpot 9 = .ok (.aload_n 0, 1) := by decide +kernel
theorem dX6_shelfAtSpot_10 : decode cX6_shelfAtSpot 10 = .ok (.aload_n 0, 1) := by decide +kernel
theorem dX6_shelfAtSpot_11 : decode cX6_shelfAtSpot 11 = .ok (.iload_n 1, 1) := by decide +kernel
theorem dX6_shelfAtSpot_12 : decode cX6_shelfAtSpot 12 = .ok (.aload_n 0, 1) := by decide +kernel
theorem dX6_shelfAtSpot_13 : decode cX6_shelfAtSpot 13 = .ok (.getfield 21, 3) := by decide +kernel
theorem dX6_shelfAtSpot_16 : decode cX6_shelfAtSpot 16 = .ok (.iconst 1, 1) := by decide +kernel
theorem dX6_shelfAtSpot_17 : decode cX6_shelfAtSpot 17 = .ok (.isub, 1) := by decide +kernel
theorem dX6_shelfAtSpot_18 : decode cX6_shelfAtSpot 18 = .ok (.invokestatic 59, 3) := by decide +kernel
theorem dX6_shelfAtSpot_21 : decode cX6_shelfAtSpot 21 = .ok (.invokevirtual 37, 3) := by decide +kernel
theorem dX6_shelfAtSpot_24 : decode cX6_shelfAtSpot 24 = .ok (.invokevirtual 33, 3) := by decide +kernel
theorem dX6_shelfAtSpot_27 : decode cX6_shelfAtSpot 27 = .ok (.ireturn, 1) := by decide +kernel
set_option maxHeartbeats 4000000 in
set_option maxRecDepth 100000 in
theorem kX6_shelfAtSpot (l : Launch) (z : Nat) (D : va_G) (cA : Nat → ClassId) (a0 : Nat) (x1 : Int32) (M : Mem) (K : Int32 → Prop) (h : PX6_shelfAtSpot a0 x1 M K) : Met l yX6_shelfAtSpot (.code yX6_shelfAtSpot cX6_shelfAtSpot 2 (some .int) :: gtbl) ({ frames := 1, cells := 0, slots := 0, locals := 21 } : Room) (va_Pc [.ref a0, .int x1] (xB z D cA M)) (va_Qi (fun r M1 => M1 = M ∧ K r) (xWd z D cA) (xA z)) 0 0 (xA z) := by
  refine x_met (by decide +kernel) (Nat.le_of_ble_eq_true rfl) (L0 := [(0, .ref a0), (1, .int x1)]) rfl ?_
  intro p e s m args below meth c E hr hlk hnm
  have E : xE RX6 cX6_shelfAtSpot 2 D cA p s m args c := E
  replace h := h.2
  refine x_aload_n E dX6_shelfAtSpot_0 rfl 0 rfl ?_
  obtain ⟨hT, v1, hv, h⟩ := h
  refine x_get E flX6_21 dX6_shelfAtSpot_1 hT hv ?_
  clear hT hv
  refine x_if_ne (tgt := 9) E dX6_shelfAtSpot_4 (by decide) (fun c2 => ?_) (fun c2 => ?_)
  · replace h := xbr_f h c2
    clear c2
    refine x_aload_n E dX6_shelfAtSpot_9 rfl 0 rfl ?_
    refine x_aload_n E dX6_shelfAtSpot_10 rfl 0 rfl ?_
    refine x_iload_n E dX6_shelfAtSpot_11 rfl 1 rfl ?_
    refine x_aload_n E dX6_shelfAtSpot_12 rfl 0 rfl ?_
    obtain ⟨hT, v3, hv, h⟩ := h
    refine x_get E flX6_21 dX6_shelfAtSpot_13 hT hv ?_
    clear hT hv
    refine x_iconst (v := (J 1)) E dX6_shelfAtSpot_16 (by decide) ?_
    refine x_isub E dX6_shelfAtSpot_17 ?_
    refine x_mmin E (gw 594 (by decide +kernel) rfl) (gw 595 (by decide +kernel) rfl) (gw 3 (by decide +kernel) rfl) (gw 596 (by decide +kernel) rfl) dX6_shelfAtSpot_18 (Nat.le_of_ble_eq_true rfl) (Nat.le_of_ble_eq_true rfl) (Nat.le_of_ble_eq_true rfl) (Nat.le_of_ble_eq_true rfl) ?_
    refine x_callVi (T := TX6) (N := 3) (t := 7) (As := [.int (if (v3 - (J 1)) < x1 then (v3 - (J 1)) else x1)]) E mlX6_37 inX6_bookAt seX6_bookAt rfl ⟨by decide, by decide⟩ (tX6_bookAt h) (kX6_bookAt l z D cA a0 (if (v3 - (J 1)) < x1 then (v3 - (J 1)) else x1) M _ h) rfl ⟨rfl, rfl⟩ ⟨Nat.le_of_ble_eq_true rfl, Nat.le_of_ble_eq_true rfl⟩ ⟨(Nat.le_of_ble_eq_true rfl), (Nat.le_of_ble_eq_true rfl)⟩ (Nat.le_of_ble_eq_true rfl) rfl dX6_shelfAtSpot_21 (x_pure (fun r4 h => ?_))
    refine x_callVi (T := TX6) (N := 3) (t := 7) (As := [.int r4]) E mlX6_33 inX6_shelfOf seX6_shelfOf rfl ⟨by decide, by decide⟩ (tX6_shelfOf h) (kX6_shelfOf l z D cA a0 r4 M _ h) rfl ⟨rfl, rfl⟩ ⟨Nat.le_of_ble_eq_true rfl, Nat.le_of_ble_eq_true rfl⟩ ⟨(Nat.le_of_ble_eq_true rfl), (Nat.le_of_ble_eq_true rfl)⟩ (Nat.le_of_ble_eq_true rfl) rfl dX6_shelfAtSpot_24 (x_pure (fun r6 h => ?_))
    exact x_iret E hr hlk dX6_shelfAtSpot_27 ⟨rfl, h⟩
  · replace h := xbr_t h c2
    clear c2
    refine x_iconst (v := (J 0)) E dX6_shelfAtSpot_7 (by decide) ?_
    exact x_iret E hr hlk dX6_shelfAtSpot_8 ⟨rfl, h⟩
theorem dX3_chance_0 : decode cX3_chance 0 = .ok (.aload_n 0, 1) := by decide +kernel
theorem dX3_chance_1 : decode cX3_chance 1 = .ok (.invokevirtual 27, 3) := by decide +kernel
theorem dX3_chance_4 : decode cX3_chance 4 = .ok (.istore 5, 2) := by decide +kernel
theorem dX3_chance_6 : decode cX3_chance 6 = .ok (.iload 5, 2) := by decide +kernel
theorem dX3_chance_8 : decode cX3_chance 8 = .ok (.ifCond .gt 5, 3) := by decide +kernel
theorem dX3_chance_11 : decode cX3_chance 11 = .ok (.iconst 0, 1) := by decide +kernel
theorem dX3_chance_12 : decode cX3_chance 12 = .ok (.ireturn, 1) := by decide +kernel
theorem dX3_chance_13 : decode cX3_chance 13 = .ok (.iconst 0, 1) := by decide +kernel
theorem dX3_chance_14 : decode cX3_chance 14 = .ok (.istore 6, 2) := by decide +kernel
theorem dX3_chance_16 : decode cX3_chance 16 = .ok (.iconst 0, 1) := by decide +kernel
theorem dX3_chance_17 : decode cX3_chance 17 = .ok (.istore 7, 2) := by decide +kernel
theorem dX3_chance_19 : decode cX3_chance 19 = .ok (.iload 7, 2) := by decide +kernel
theorem dX3_chance_21 : decode cX3_chance 21 = .ok (.iconst 5, 1) := by decide +kernel
theorem dX3_chance_22 : decode cX3_chance 22 = .ok (.if_icmp .ge 37, 3) := by decide +kernel
theorem dX3_chance_25 : decode cX3_chance 25 = .ok (.aload_n 1, 1) := by decide +kernel
theorem dX3_chance_26 : decode cX3_chance 26 = .ok (.aload_n 1, 1) := by decide +kernel
theorem dX3_chance_27 : decode cX3_chance 27 = .ok (.aload_n 2, 1) := by decide +kernel
theorem dX3_chance_28 : decode cX3_chance 28 = .ok (.iload_n 3, 1) := by decide +kernel
theorem dX3_chance_29 : decode cX3_chance 29 = .ok (.iload 7, 2) := by decide +kernel
theorem dX3_chance_31 : decode cX3_chance 31 = .ok (.invokevirtual 31, 3) := by decide +kernel
theorem dX3_chance_34 : decode cX3_chance 34 = .ok (.invokevirtual 37, 3) := by decide +kernel
theorem dX3_chance_37 : decode cX3_chance 37 = .ok (.iload 4, 2) := by decide +kernel
theorem dX3_chance_39 : decode cX3_chance 39 = .ok (.if_icmp .ne 14, 3) := by decide +kernel
theorem dX3_chance_42 : decode cX3_chance 42 = .ok (.iload 6, 2) := by decide +kernel
theorem dX3_chance_44 : decode cX3_chance 44 = .ok (.aload_n 0, 1) := by decide +kernel
theorem dX3_chance_45 : decode cX3_chance 45 = .ok (.iload 7, 2) := by decide +kernel
theorem dX3_chance_47 : decode cX3_chance 47 = .ok (.invokevirtual 23, 3) := by decide +kernel
theorem dX3_chance_50 : decode cX3_chance 50 = .ok (.iadd, 1) := by decide +kernel
theorem dX3_chance_51 : decode cX3_chance 51 = .ok (.istore 6, 2) := by decide +kernel
theorem dX3_chance_53 : decode cX3_chance 53 = .ok (.iinc 7 1, 3) := by decide +kernel
theorem dX3_chance_56 : decode cX3_chance 56 = .ok (.goto (-37), 3) := by decide +kernel
theorem dX3_chance_59 : decode cX3_chance 59 = .ok (.iload 6, 2) := by decide +kernel
theorem dX3_chance_61 : decode cX3_chance 61 = .ok (.ldc 40, 2) := by decide +kernel
theorem dX3_chance_63 : decode cX3_chance 63 = .ok (.imul, 1) := by decide +kernel
theorem dX3_chance_64 : decode cX3_chance 64 = .ok (.iload 5, 2) := by decide +kernel
theorem dX3_chance_66 : decode cX3_chance 66 = .ok (.idiv, 1) := by decide +kernel
theorem dX3_chance_67 : decode cX3_chance 67 = .ok (.ireturn, 1) := by decide +kernel
set_option maxHeartbeats 4000000 in
set_option maxRecDepth 100000 in
theorem kX3_chance (l : Launch) (z : Nat) (D : va_G) (cA : Nat → ClassId) (a0 : Nat) (a1 : Nat) (a2 : Nat) (x3 : Int32) (x4 : Int32) (M : Mem) (K : Int32 → Prop) (h : PX3_chance a0 a1 a2 x3 x4 M K) : Met l yX3_chance (.code yX3_chance cX3_chance 8 (some .int) :: gtbl) ({ frames := 4, cells := 0, slots := 0, locals := 95 } : Room) (va_Pc [.ref a0, .ref a1, .ref a2, .int x3, .int x4] (xB z D cA M)) (va_Qi (fun r M1 => M1 = M ∧ K r) (xWd z D cA) (xA z)) 0 0 (xA z) := by
  refine x_met (by decide +kernel) (Nat.le_of_ble_eq_true rfl) (L0 := [(0, .ref a0), (1, .ref a1), (2, .ref a2), (3, .int x3), (4, .int x4)]) rfl ?_
  intro p e s m args below meth c E hr hlk hnm
  have E : xE RX3 cX3_chance 8 D cA p s m args c := E
  replace h := h.2
  refine x_aload_n E dX3_chance_0 rfl 0 rfl ?_
  refine x_callVi (T := TX3) (N := 1) (t := 4) (As := []) E mlX3_27 inX3_total seX3_total rfl ⟨by decide, by decide⟩ (tX3_total h) (kX3_total l z D cA a0 M _ h) rfl ⟨rfl, rfl⟩ ⟨Nat.le_of_ble_eq_true rfl, Nat.le_of_ble_eq_true rfl⟩ ⟨(Nat.le_of_ble_eq_true rfl), (Nat.le_of_ble_eq_true rfl)⟩ (Nat.le_of_ble_eq_true rfl) rfl dX3_chance_1 (x_pure (fun r1 h => ?_))
  refine x_istore (L' := [(5, .int r1), (0, .ref a0), (1, .ref a1), (2, .ref a2), (3, .int x3), (4, .int x4)]) E dX3_chance_4 (by decide) rfl ?_
  refine x_iload E dX3_chance_6 0 rfl ?_
  refine x_if_gt (tgt := 13) E dX3_chance_8 (by decide) (fun c3 => ?_) (fun c3 => ?_)
  · replace h := xbr_t h c3
    clear c3
    refine x_iconst (v := (J 0)) E dX3_chance_13 (by decide) ?_
    refine x_istore (L' := [(6, .int (J 0)), (5, .int r1), (0, .ref a0), (1, .ref a1), (2, .ref a2), (3, .int x3), (4, .int x4)]) E dX3_chance_14 (by decide) rfl ?_
    refine x_iconst (v := (J 0)) E dX3_chance_16 (by decide) ?_
    refine x_istore (L' := [(7, .int (J 0)), (6, .int (J 0)), (5, .int r1), (0, .ref a0), (1, .ref a1), (2, .ref a2), (3, .int x3), (4, .int x4)]) E dX3_chance_17 (by decide) rfl ?_
    refine x_sub (L' := [(0, .ref a0), (1, .ref a1), (2, .ref a2), (3, .int x3), (4, .int x4), (5, .int r1), (6, .int (J 0)), (7, .int (J 0))]) [3, 4, 5, 6, 7, 2, 1, 0] rfl ?_
    refine lp_sound (T := fun sv => xG p l e ({ frames := 4, cells := 0, slots := 0, locals := 95 } : Room) s m args below meth c (MQ below (va_Qi (fun r M1 => M1 = M ∧ K r) (xWd z D cA) (xA z)) args s 0 0 (xA z)) 8 z D cA M (0) (0) 19 [(0, .ref a0), (1, .ref a1), (2, .ref a2), (3, .int x3), (4, .int x4), (5, .int r1), (6, .int sv.1), (7, .int sv.2)] []) ?_ ((J 0), (J 0)) h
    clear h
    intro kc19 hk19 sv h
    obtain ⟨x6, x7⟩ := sv
    replace h : CX3_chance_19 K M a0 a1 a2 x3 x4 r1 kc19 x6 x7 := h
    try dsimp only
    refine x_iload E dX3_chance_19 7 rfl ?_
    refine x_iconst (v := (J 5)) E dX3_chance_21 (by decide) ?_
    refine x_icmp_ge (tgt := 59) E dX3_chance_22 (by decide) (fun c4 => ?_) (fun c4 => ?_)
    · replace h := xbr_t h c4
      clear c4
      refine x_iload E dX3_chance_59 6 rfl ?_
      refine x_ldc (v := (J 1000000)) E (gw 769 (by decide +kernel) rfl) dX3_chance_61 ?_
      refine x_imul E dX3_chance_63 ?_
      refine x_iload E dX3_chance_64 5 rfl ?_
      obtain ⟨h0, h⟩ := h
      refine x_idiv E dX3_chance_66 h0 ?_
      clear h0
      exact x_iret E hr hlk dX3_chance_67 ⟨rfl, h⟩
    · replace h := xbr_f h c4
      clear c4
      refine x_aload_n E dX3_chance_25 rfl 1 rfl ?_
      refine x_aload_n E dX3_chance_26 rfl 1 rfl ?_
      refine x_aload_n E dX3_chance_27 rfl 2 rfl ?_
      refine x_iload_n E dX3_chance_28 rfl 3 rfl ?_
      refine x_iload E dX3_chance_29 7 rfl ?_
      refine x_callVi (T := TX6) (N := 3) (t := 7) (As := [.ref a2, .int x3, .int x7]) E mlX3_31 inX6_spotFor seX6_spotFor rfl ⟨by decide, by decide⟩ (tX6_spotFor h) (kX6_spotFor l z D cA a1 a2 x3 x7 M _ h) rfl ⟨rfl, rfl⟩ ⟨Nat.le_of_ble_eq_true rfl, Nat.le_of_ble_eq_true rfl⟩ ⟨(Nat.le_of_ble_eq_true rfl), (Nat.le_of_ble_eq_true rfl)⟩ (Nat.le_of_ble_eq_true rfl) rfl dX3_chance_31 (x_pure (fun r5 h => ?_))
      refine x_callVi (T := TX6) (N := 3) (t := 7) (As := [.int r5]) E mlX3_37 inX6_shelfAtSpot seX6_shelfAtSpot rfl ⟨by decide, by decide⟩ (tX6_shelfAtSpot h) (kX6_shelfAtSpot l z D cA a1 r5 M _ h) rfl ⟨rfl, rfl⟩ ⟨Nat.le_of_ble_eq_true rfl, Nat.le_of_ble_eq_true rfl⟩ ⟨(Nat.le_of_ble_eq_true rfl), (Nat.le_of_ble_eq_true rfl)⟩ (Nat.le_of_ble_eq_true rfl) rfl dX3_chance_34 (x_pure (fun r7 h => ?_))
      refine x_iload E dX3_chance_37 4 rfl ?_
      refine x_icmp_ne (tgt := 53) E dX3_chance_39 (by decide) (fun c9 => ?_) (fun c9 => ?_)
      · replace h := xbr_f h c9
        clear c9
        refine x_iinc (v := (x7 + (J 1))) (L' := [(7, .int (x7 + (J 1))), (0, .ref a0), (1, .ref a1), (2, .ref a2), (3, .int x3), (4, .int x4), (5, .int r1), (6, .int x6)]) E dX3_chance_53 7 rfl rfl (by decide) rfl ?_
        refine x_goto (tgt := 19) E dX3_chance_56 (by decide) ?_
        refine x_sub (L' := [(0, .ref a0), (1, .ref a1), (2, .ref a2), (3, .int x3), (4, .int x4), (5, .int r1), (6, .int x6), (7, .int (x7 + (J 1)))]) [1, 2, 3, 4, 5, 6, 7, 0] rfl ?_
        exact hk19 (x6, (x7 + (J 1))) h
      · replace h := xbr_t h c9
        clear c9
        refine x_iload E dX3_chance_42 6 rfl ?_
        refine x_aload_n E dX3_chance_44 rfl 0 rfl ?_
        refine x_iload E dX3_chance_45 7 rfl ?_
        refine x_callVi (T := TX3) (N := 1) (t := 4) (As := [.int x7]) E mlX3_23 inX3_weight seX3_weight rfl ⟨by decide, by decide⟩ (tX3_weight h) (kX3_weight l z D cA a0 x7 M _ h) rfl ⟨rfl, rfl⟩ ⟨Nat.le_of_ble_eq_true rfl, Nat.le_of_ble_eq_true rfl⟩ ⟨(Nat.le_of_ble_eq_true rfl), (Nat.le_of_ble_eq_true rfl)⟩ (Nat.le_of_ble_eq_true rfl) rfl dX3_chance_47 (x_pure (fun r10 h => ?_))
        refine x_iadd E dX3_chance_50 ?_
        obtain ⟨y12, ey12, h⟩ := h
        refine x_top (v := .int y12) (congrArg _ ey12) ?_
        clear ey12
        refine x_istore (L' := [(6, .int y12), (0, .ref a0), (1, .ref a1), (2, .ref a2), (3, .int x3), (4, .int x4), (5, .int r1), (7, .int x7)]) E dX3_chance_51 (by decide) rfl ?_
        refine x_iinc (v := (x7 + (J 1))) (L' := [(7, .int (x7 + (J 1))), (6, .int y12), (0, .ref a0), (1, .ref a1), (2, .ref a2), (3, .int x3), (4, .int x4), (5, .int r1)]) E dX3_chance_53 7 rfl rfl (by decide) rfl ?_
        refine x_goto (tgt := 19) E dX3_chance_56 (by decide) ?_
        refine x_sub (L' := [(0, .ref a0), (1, .ref a1), (2, .ref a2), (3, .int x3), (4, .int x4), (5, .int r1), (6, .int y12), (7, .int (x7 + (J 1)))]) [2, 3, 4, 5, 6, 7, 1, 0] rfl ?_
        exact hk19 (y12, (x7 + (J 1))) h
  · replace h := xbr_f h c3
    clear c3
    refine x_iconst (v := (J 0)) E dX3_chance_11 (by decide) ?_
    exact x_iret E hr hlk dX3_chance_12 ⟨rfl, h⟩
theorem dX6_clear_0 : decode cX6_clear 0 = .ok (.aload_n 0, 1) := by decide +kernel
theorem dX6_clear_1 : decode cX6_clear 1 = .ok (.iconst 0, 1) := by decide +kernel
theorem dX6_clear_2 : decode cX6_clear 2 = .ok (.putfield 21, 3) := by decide +kernel
theorem dX6_clear_5 : decode cX6_clear 5 = .ok (.iconst 0, 1) := by decide +kernel
theorem dX6_clear_6 : decode cX6_clear 6 = .ok (.istore_n 1, 1) := by decide +kernel
theorem dX6_clear_7 : decode cX6_clear 7 = .ok (.iload_n 1, 1) := by decide +kernel
theorem dX6_clear_8 : decode cX6_clear 8 = .ok (.bipush 24, 2) := by decide +kernel
theorem dX6_clear_10 : decode cX6_clear 10 = .ok (.if_icmp .ge 18, 3) := by decide +kernel
theorem dX6_clear_13 : decode cX6_clear 13 = .ok (.aload_n 0, 1) := by decide +kernel
theorem dX6_clear_14 : decode cX6_clear 14 = .ok (.getfield 15, 3) := by decide +kernel
theorem dX6_clear_17 : decode cX6_clear 17 = .ok (.iload_n 1, 1) := by decide +kernel
theorem dX6_clear_18 : decode cX6_clear 18 = .ok (.iconst (-1), 1) := by decide +kernel
theorem dX6_clear_19 : decode cX6_clear 19 = .ok (.invokestatic 25, 3) := by decide +kernel
theorem dX6_clear_22 : decode cX6_clear 22 = .ok (.iinc 1 1, 3) := by decide +kernel
theorem dX6_clear_25 : decode cX6_clear 25 = .ok (.goto (-18), 3) := by decide +kernel
theorem dX6_clear_28 : decode cX6_clear 28 = .ok (.return_, 1) := by decide +kernel
set_option maxHeartbeats 4000000 in
set_option maxRecDepth 100000 in
theorem kX6_clear (l : Launch) (z : Nat) (D : va_G) (cA : Nat → ClassId) (a0 : Nat) (M : Mem) (K : Mem → Prop) (h : PX6_clear a0 M K) : Met l yX6_clear (.code yX6_clear cX6_clear 2 none :: gtbl) ({ frames := 1, cells := 0, slots := 0, locals := 22 } : Room) (va_Pc [.ref a0] (xB z D cA M)) (va_Qv K (xWd z D cA) (xA z)) 0 0 (xA z) := by
  refine x_met (by decide +kernel) (Nat.le_of_ble_eq_true rfl) (L0 := [(0, .ref a0)]) rfl ?_
  intro p e s m args below meth c E hr hlk hnm
  have E : xE RX6 cX6_clear 2 D cA p s m args c := E
  replace h := h.2
  refine x_aload_n E dX6_clear_0 rfl 0 rfl ?_
  refine x_iconst (v := (J 0)) E dX6_clear_1 (by decide) ?_
  obtain ⟨hT, h⟩ := h
  refine x_put E flX6_21 ⟨tyX6_ok, nmX6, rfl⟩ (by decide +kernel) rfl rfl dX6_clear_2 hT (fun M1 eM1 => ?_)
  replace h := h M1 eM1
  clear hT eM1
  refine x_iconst (v := (J 0)) E dX6_clear_5 (by decide) ?_
  refine x_istore_n (L' := [(1, .int (J 0)), (0, .ref a0)]) E dX6_clear_6 rfl (by decide) rfl ?_
  refine x_sub (L' := [(0, .ref a0), (1, .int (J 0))]) [1, 0] rfl ?_
  refine lp_sound (T := fun sv => xG p l e ({ frames := 1, cells := 0, slots := 0, locals := 22 } : Room) s m args below meth c (MQ below (va_Qv K (xWd z D cA) (xA z)) args s 0 0 (xA z)) 2 z D cA sv.1 (0) (0) 7 [(0, .ref a0), (1, .int sv.2)] []) ?_ (M1, (J 0)) h
  clear h
  intro kc7 hk7 sv h
  obtain ⟨M, x1⟩ := sv
  replace h : CX6_clear_7 K a0 kc7 M x1 := h
  try dsimp only
  refine x_iload_n E dX6_clear_7 rfl 1 rfl ?_
  refine x_bipush (v := (J 24)) E dX6_clear_8 (by decide) ?_
  refine x_icmp_ge (tgt := 28) E dX6_clear_10 (by decide) (fun c2 => ?_) (fun c2 => ?_)
  · replace h := xbr_t h c2
    clear c2
    exact x_vret E hr hlk dX6_clear_28 h
  · replace h := xbr_f h c2
    clear c2
    refine x_aload_n E dX6_clear_13 rfl 0 rfl ?_
    obtain ⟨hT, q3, hv, h⟩ := h
    refine x_get E flX6_15 dX6_clear_14 hT hv ?_
    clear hT hv
    refine x_iload_n E dX6_clear_17 rfl 1 rfl ?_
    refine x_iconst (v := (J (-1))) E dX6_clear_18 (by decide) ?_
    refine x_callSNv (As := [.ref q3, .int x1, .int (J (-1))]) E mlX6_25 stX10_write (kX10_write l z D cA q3 x1 (J (-1)) M _ h) rfl ⟨rfl, rfl⟩ ⟨Nat.le_of_ble_eq_true rfl, Nat.le_of_ble_eq_true rfl⟩ ⟨(Nat.le_of_ble_eq_true rfl), (Nat.le_of_ble_eq_true rfl)⟩ (Nat.le_of_ble_eq_true rfl) rfl dX6_clear_19 (fun M5 h => ?_)
    refine x_iinc (v := (x1 + (J 1))) (L' := [(1, .int (x1 + (J 1))), (0, .ref a0)]) E dX6_clear_22 1 rfl rfl (by decide) rfl ?_
    refine x_goto (tgt := 7) E dX6_clear_25 (by decide) ?_
    refine x_sub (L' := [(0, .ref a0), (1, .int (x1 + (J 1)))]) [1, 0] rfl ?_
    exact hk7 (M5, (x1 + (J 1))) h
theorem dX6_init_0 : decode cX6_init 0 = .ok (.aload_n 0, 1) := by decide +kernel
theorem dX6_init_1 : decode cX6_init 1 = .ok (.invokespecial 3, 3) := by decide +kernel
theorem dX6_init_4 : decode cX6_init 4 = .ok (.aload_n 0, 1) := by decide +kernel
theorem dX6_init_5 : decode cX6_init 5 = .ok (.bipush 24, 2) := by decide +kernel
theorem dX6_init_7 : decode cX6_init 7 = .ok (.newarray .int, 2) := by decide +kernel
theorem dX6_init_9 : decode cX6_init 9 = .ok (.putfield 9, 3) := by decide +kernel
theorem dX6_init_12 : decode cX6_init 12 = .ok (.aload_n 0, 1) := by decide +kernel
theorem dX6_init_13 : decode cX6_init 13 = .ok (.bipush 24, 2) := by decide +kernel
theorem dX6_init_15 : decode cX6_init 15 = .ok (.newarray .int, 2) := by decide +kernel
theorem dX6_init_17 : decode cX6_init 17 = .ok (.putfield 15, 3) := by decide +kernel
theorem dX6_init_20 : decode cX6_init 20 = .ok (.aload_n 0, 1) := by decide +kernel
theorem dX6_init_21 : decode cX6_init 21 = .ok (.invokevirtual 18, 3) := by decide +kernel
theorem dX6_init_24 : decode cX6_init 24 = .ok (.return_, 1) := by decide +kernel
set_option maxHeartbeats 4000000 in
set_option maxRecDepth 100000 in
theorem kX6_init (l : Launch) (z : Nat) (D : va_G) (cA : Nat → ClassId) (a0 : Nat) (M : Mem) (K : Mem → Prop) (h : PX6_init a0 M K) : Met l yX6_init (.code yX6_init cX6_init 1 none :: gtbl) ({ frames := 2, cells := 2, slots := 1300, locals := 43 } : Room) (va_Pc [.ref a0] (xB z D cA M)) (va_Qv K (xWd z D cA) (xA z)) 2 1300 (xA z) := by
  refine x_met (by decide +kernel) (Nat.le_of_ble_eq_true rfl) (L0 := [(0, .ref a0)]) rfl ?_
  intro p e s m args below meth c E hr hlk hnm
  have E : xE RX6 cX6_init 1 D cA p s m args c := E
  replace h := h.2
  refine x_aload_n E dX6_init_0 rfl 0 rfl ?_
  refine x_objInit E (gw 140 (by decide +kernel) rfl) (gw 21 (by decide +kernel) rfl) (gw 22 (by decide +kernel) rfl) dX6_init_1 (Nat.le_of_ble_eq_true rfl) (Nat.le_of_ble_eq_true rfl) ?_
  refine x_aload_n E dX6_init_4 rfl 0 rfl ?_
  refine x_bipush (v := (J 24)) E dX6_init_5 (by decide) ?_
  obtain ⟨hi, hN, h⟩ := h
  refine x_newa (q := 0) (N := 24) E (ty := .int) rfl rfl (fun _ h => by cases h) (gw 39 (by decide +kernel) rfl) hi hN (Nat.le_of_ble_eq_true rfl) (Nat.le_of_ble_eq_true rfl) (Nat.le_of_ble_eq_true rfl) dX6_init_7 (fun q1 M2 eq1 eM2 => ?_)
  replace h := h q1 M2 eq1 eM2
  clear eq1 eM2 hi hN
  obtain ⟨hT, h⟩ := h
  refine x_putF E flX6_9 (gw 146 (by decide +kernel) rfl) ⟨tyX6_ok, nmX6, rfl⟩ rfl hnm (by decide +kernel) rfl rfl dX6_init_9 hT (fun M3 eM3 => ?_)
  replace h := h M3 eM3
  clear hT eM3
  refine x_aload_n E dX6_init_12 rfl 0 rfl ?_
  refine x_bipush (v := (J 24)) E dX6_init_13 (by decide) ?_
  obtain ⟨hi, hN, h⟩ := h
  refine x_newa (q := 0) (N := 24) E (ty := .int) rfl rfl (fun _ h => by cases h) (gw 39 (by decide +kernel) rfl) hi hN (Nat.le_of_ble_eq_true rfl) (Nat.le_of_ble_eq_true rfl) (Nat.le_of_ble_eq_true rfl) dX6_init_15 (fun q4 M5 eq4 eM5 => ?_)
  replace h := h q4 M5 eq4 eM5
  clear eq4 eM5 hi hN
  obtain ⟨hT, h⟩ := h
  refine x_putF E flX6_15 (gw 147 (by decide +kernel) rfl) ⟨tyX6_ok, nmX6, rfl⟩ rfl hnm (by decide +kernel) rfl rfl dX6_init_17 hT (fun M6 eM6 => ?_)
  replace h := h M6 eM6
  clear hT eM6
  refine x_aload_n E dX6_init_20 rfl 0 rfl ?_
  refine x_callVv (T := TX6) (N := 3) (t := 7) (As := []) E mlX6_18 inX6_clear seX6_clear rfl ⟨by decide, by decide⟩ (tX6_clear h) (kX6_clear l z D cA a0 M6 _ h) rfl ⟨rfl, rfl⟩ ⟨Nat.le_of_ble_eq_true rfl, Nat.le_of_ble_eq_true rfl⟩ ⟨(Nat.le_of_ble_eq_true rfl), (Nat.le_of_ble_eq_true rfl)⟩ (Nat.le_of_ble_eq_true rfl) rfl dX6_init_21 (fun M8 h => ?_)
  refine x_widen (k' := 2) (n' := 1300) (Nat.le_of_ble_eq_true rfl) (Nat.le_of_ble_eq_true rfl) ?_
  exact x_vret E hr hlk dX6_init_24 h
theorem dX4_init_0 : decode cX4_init 0 = .ok (.aload_n 0, 1) := by decide +kernel
theorem dX4_init_1 : decode cX4_init 1 = .ok (.invokespecial 1, 3) := by decide +kernel
theorem dX4_init_4 : decode cX4_init 4 = .ok (.aload_n 0, 1) := by decide +kernel
theorem dX4_init_5 : decode cX4_init 5 = .ok (.new 7, 3) := by decide +kernel
theorem dX4_init_8 : decode cX4_init 8 = .ok (.dup, 1) := by decide +kernel
theorem dX4_init_9 : decode cX4_init 9 = .ok (.invokespecial 9, 3) := by decide +kernel
theorem dX4_init_12 : decode cX4_init 12 = .ok (.putfield 10, 3) := by decide +kernel
theorem dX4_init_15 : decode cX4_init 15 = .ok (.return_, 1) := by decide +kernel
set_option maxHeartbeats 4000000 in
set_option maxRecDepth 100000 in
theorem kX4_init (l : Launch) (z : Nat) (D : va_G) (cA : Nat → ClassId) (a0 : Nat) (M : Mem) (K : Mem → Prop) (h : PX4_init a0 M K) : Met l yX4_init (.code yX4_init cX4_init 1 none :: gtbl) ({ frames := 3, cells := 3, slots := 1303, locals := 63 } : Room) (va_Pc [.ref a0] (xB z D cA M)) (va_Qv K (xWd z D cA) (xA z)) 3 1303 (xA z) := by
  refine x_met (by decide +kernel) (Nat.le_of_ble_eq_true rfl) (L0 := [(0, .ref a0)]) rfl ?_
  intro p e s m args below meth c E hr hlk hnm
  have E : xE RX4 cX4_init 1 D cA p s m args c := E
  replace h := h.2
  refine x_aload_n E dX4_init_0 rfl 0 rfl ?_
  refine x_objInit E (gw 204 (by decide +kernel) rfl) (gw 21 (by decide +kernel) rfl) (gw 22 (by decide +kernel) rfl) dX4_init_1 (Nat.le_of_ble_eq_true rfl) (Nat.le_of_ble_eq_true rfl) ?_
  refine x_aload_n E dX4_init_4 rfl 0 rfl ?_
  refine x_new (ty := tyX6) E (C := RX6) (T := TX6) (N := 3) (t := 7) rfl ⟨by decide, by decide⟩ uiX6 tyX6_ok (gw 205 (by decide +kernel) rfl) (gw 136 (by decide +kernel) rfl) (gw 7 (by decide +kernel) rfl) (Nat.le_of_ble_eq_true rfl) (Nat.le_of_ble_eq_true rfl) dX4_init_5 (fun q1 M2 eq1 eM2 => ?_)
  replace h := h q1 M2 eq1 eM2
  clear eq1 eM2
  refine x_dup E dX4_init_8 rfl ?_
  refine x_callI (As := []) E mlX4_9 inX6_init rfl (kX6_init l z D cA q1 M2 _ h) rfl ⟨rfl, rfl⟩ ⟨Nat.le_of_ble_eq_true rfl, Nat.le_of_ble_eq_true rfl⟩ ⟨(Nat.le_of_ble_eq_true rfl), (Nat.le_of_ble_eq_true rfl)⟩ (Nat.le_of_ble_eq_true rfl) rfl dX4_init_9 (fun M4 h => ?_)
  obtain ⟨hT, h⟩ := h
  refine x_putF E flX4_10 (gw 207 (by decide +kernel) rfl) ⟨tyX4_ok, nmX4, rfl⟩ rfl hnm (by decide +kernel) rfl rfl dX4_init_12 hT (fun M5 eM5 => ?_)
  replace h := h M5 eM5
  clear hT eM5
  refine x_widen (k' := 3) (n' := 1303) (Nat.le_of_ble_eq_true rfl) (Nat.le_of_ble_eq_true rfl) ?_
  exact x_vret E hr hlk dX4_init_15 h
theorem dX6_copyFrom_0 : decode cX6_copyFrom 0 = .ok (.aload_n 0, 1) := by decide +kernel
theorem dX6_copyFrom_1 : decode cX6_copyFrom 1 = .ok (.aload_n 1, 1) := by decide +kernel
theorem dX6_copyFrom_2 : decode cX6_copyFrom 2 = .ok (.getfield 21, 3) := by decide +kernel
theorem dX6_copyFrom_5 : decode cX6_copyFrom 5 = .ok (.putfield 21, 3) := by decide +kernel
theorem dX6_copyFrom_8 : decode cX6_copyFrom 8 = .ok (.iconst 0, 1) := by decide +kernel
theorem dX6_copyFrom_9 : decode cX6_copyFrom 9 = .ok (.istore_n 2, 1) := by decide +kernel
theorem dX6_copyFrom_10 : decode cX6_copyFrom 10 = .ok (.iload_n 2, 1) := by decide +kernel
theorem dX6_copyFrom_11 : decode cX6_copyFrom 11 = .ok (.bipush 24, 2) := by decide +kernel
theorem dX6_copyFrom_13 : decode cX6_copyFrom 13 = .ok (.if_icmp .ge 41, 3) := by decide +kernel
theorem dX6_copyFrom_16 : decode cX6_copyFrom 16 = .ok (.aload_n 0, 1) := by decide +kernel
theorem dX6_copyFrom_17 : decode cX6_copyFrom 17 = .ok (.getfield 9, 3) := by decide +kernel
theorem dX6_copyFrom_20 : decode cX6_copyFrom 20 = .ok (.iload_n 2, 1) := by decide +kernel
theorem dX6_copyFrom_21 : decode cX6_copyFrom 21 = .ok (.aload_n 1, 1) := by decide +kernel
theorem dX6_copyFrom_22 : decode cX6_copyFrom 22 = .ok (.getfield 9, 3) := by decide +kernel
theorem dX6_copyFrom_25 : decode cX6_copyFrom 25 = .ok (.iload_n 2, 1) := by decide +kernel
theorem dX6_copyFrom_26 : decode cX6_copyFrom 26 = .ok (.invokestatic 29, 3) := by decide +kernel
theorem dX6_copyFrom_29 : decode cX6_copyFrom 29 = .ok (.invokestatic 25, 3) := by decide +kernel
theorem dX6_copyFrom_32 : decode cX6_copyFrom 32 = .ok (.aload_n 0, 1) := by decide +kernel
theorem dX6_copyFrom_33 : decode cX6_copyFrom 33 = .ok (.getfield 15, 3) := by decide +kernel
theorem dX6_copyFrom_36 : decode cX6_copyFrom 36 = .ok (.iload_n 2, 1) := by decide +kernel
theorem dX6_copyFrom_37 : decode cX6_copyFrom 37 = .ok (.aload_n 1, 1) := by decide +kernel
theorem dX6_copyFrom_38 : decode cX6_copyFrom 38 = .ok (.getfield 15, 3) := by decide +kernel
theorem dX6_copyFrom_41 : decode cX6_copyFrom 41 = .ok (.iload_n 2, 1) := by decide +kernel
theorem dX6_copyFrom_42 : decode cX6_copyFrom 42 = .ok (.invokestatic 29, 3) := by decide +kernel
theorem dX6_copyFrom_45 : decode cX6_copyFrom 45 = .ok (.invokestatic 25, 3) := by decide +kernel
theorem dX6_copyFrom_48 : decode cX6_copyFrom 48 = .ok (.iinc 2 1, 3) := by decide +kernel
theorem dX6_copyFrom_51 : decode cX6_copyFrom 51 = .ok (.goto (-41), 3) := by decide +kernel
theorem dX6_copyFrom_54 : decode cX6_copyFrom 54 = .ok (.return_, 1) := by decide +kernel
set_option maxHeartbeats 4000000 in
set_option maxRecDepth 100000 in
theorem kX6_copyFrom (l : Launch) (z : Nat) (D : va_G) (cA : Nat → ClassId) (a0 : Nat) (a1 : Nat) (M : Mem) (K : Mem → Prop) (h : PX6_copyFrom a0 a1 M K) : Met l yX6_copyFrom (.code yX6_copyFrom cX6_copyFrom 3 none :: gtbl) ({ frames := 1, cells := 0, slots := 0, locals := 22 } : Room) (va_Pc [.ref a0, .ref a1] (xB z D cA M)) (va_Qv K (xWd z D cA) (xA z)) 0 0 (xA z) := by
  refine x_met (by decide +kernel) (Nat.le_of_ble_eq_true rfl) (L0 := [(0, .ref a0), (1, .ref a1)]) rfl ?_
  intro p e s m args below meth c E hr hlk hnm
  have E : xE RX6 cX6_copyFrom 3 D cA p s m args c := E
  replace h := h.2
  refine x_aload_n E dX6_copyFrom_0 rfl 0 rfl ?_
  refine x_aload_n E dX6_copyFrom_1 rfl 1 rfl ?_
  obtain ⟨hT, v1, hv, h⟩ := h
  refine x_get E flX6_21 dX6_copyFrom_2 hT hv ?_
  clear hT hv
  obtain ⟨hT, h⟩ := h
  refine x_put E flX6_21 ⟨tyX6_ok, nmX6, rfl⟩ (by decide +kernel) rfl rfl dX6_copyFrom_5 hT (fun M2 eM2 => ?_)
  replace h := h M2 eM2
  clear hT eM2
  refine x_iconst (v := (J 0)) E dX6_copyFrom_8 (by decide) ?_
  refine x_istore_n (L' := [(2, .int (J 0)), (0, .ref a0), (1, .ref a1)]) E dX6_copyFrom_9 rfl (by decide) rfl ?_
  refine x_sub (L' := [(0, .ref a0), (1, .ref a1), (2, .int (J 0))]) [1, 2, 0] rfl ?_
  refine lp_sound (T := fun sv => xG p l e ({ frames := 1, cells := 0, slots := 0, locals := 22 } : Room) s m args below meth c (MQ below (va_Qv K (xWd z D cA) (xA z)) args s 0 0 (xA z)) 3 z D cA sv.1 (0) (0) 10 [(0, .ref a0), (1, .ref a1), (2, .int sv.2)] []) ?_ (M2, (J 0)) h
  clear h
  intro kc10 hk10 sv h
  obtain ⟨M, x2⟩ := sv
  replace h : CX6_copyFrom_10 K a0 a1 kc10 M x2 := h
  try dsimp only
  refine x_iload_n E dX6_copyFrom_10 rfl 2 rfl ?_
  refine x_bipush (v := (J 24)) E dX6_copyFrom_11 (by decide) ?_
  refine x_icmp_ge (tgt := 54) E dX6_copyFrom_13 (by decide) (fun c3 => ?_) (fun c3 => ?_)
  · replace h := xbr_t h c3
    clear c3
    exact x_vret E hr hlk dX6_copyFrom_54 h
  · replace h := xbr_f h c3
    clear c3
    refine x_aload_n E dX6_copyFrom_16 rfl 0 rfl ?_
    obtain ⟨hT, q4, hv, h⟩ := h
    refine x_get E flX6_9 dX6_copyFrom_17 hT hv ?_
    clear hT hv
    refine x_iload_n E dX6_copyFrom_20 rfl 2 rfl ?_
    refine x_aload_n E dX6_copyFrom_21 rfl 1 rfl ?_
    obtain ⟨hT, q5, hv, h⟩ := h
    refine x_get E flX6_9 dX6_copyFrom_22 hT hv ?_
    clear hT hv
    refine x_iload_n E dX6_copyFrom_25 rfl 2 rfl ?_
    refine x_callSNi (As := [.ref q5, .int x2]) E mlX6_29 stX10_entry (kX10_entry l z D cA q5 x2 M _ h) rfl ⟨rfl, rfl⟩ ⟨Nat.le_of_ble_eq_true rfl, Nat.le_of_ble_eq_true rfl⟩ ⟨(Nat.le_of_ble_eq_true rfl), (Nat.le_of_ble_eq_true rfl)⟩ (Nat.le_of_ble_eq_true rfl) rfl dX6_copyFrom_26 (x_pure (fun r6 h => ?_))
    refine x_callSNv (As := [.ref q4, .int x2, .int r6]) E mlX6_25 stX10_write (kX10_write l z D cA q4 x2 r6 M _ h) rfl ⟨rfl, rfl⟩ ⟨Nat.le_of_ble_eq_true rfl, Nat.le_of_ble_eq_true rfl⟩ ⟨(Nat.le_of_ble_eq_true rfl), (Nat.le_of_ble_eq_true rfl)⟩ (Nat.le_of_ble_eq_true rfl) rfl dX6_copyFrom_29 (fun M9 h => ?_)
    refine x_aload_n E dX6_copyFrom_32 rfl 0 rfl ?_
    obtain ⟨hT, q10, hv, h⟩ := h
    refine x_get E flX6_15 dX6_copyFrom_33 hT hv ?_
    clear hT hv
    refine x_iload_n E dX6_copyFrom_36 rfl 2 rfl ?_
    refine x_aload_n E dX6_copyFrom_37 rfl 1 rfl ?_
    obtain ⟨hT, q11, hv, h⟩ := h
    refine x_get E flX6_15 dX6_copyFrom_38 hT hv ?_
    clear hT hv
    refine x_iload_n E dX6_copyFrom_41 rfl 2 rfl ?_
    refine x_callSNi (As := [.ref q11, .int x2]) E mlX6_29 stX10_entry (kX10_entry l z D cA q11 x2 M9 _ h) rfl ⟨rfl, rfl⟩ ⟨Nat.le_of_ble_eq_true rfl, Nat.le_of_ble_eq_true rfl⟩ ⟨(Nat.le_of_ble_eq_true rfl), (Nat.le_of_ble_eq_true rfl)⟩ (Nat.le_of_ble_eq_true rfl) rfl dX6_copyFrom_42 (x_pure (fun r12 h => ?_))
    refine x_callSNv (As := [.ref q10, .int x2, .int r12]) E mlX6_25 stX10_write (kX10_write l z D cA q10 x2 r12 M9 _ h) rfl ⟨rfl, rfl⟩ ⟨Nat.le_of_ble_eq_true rfl, Nat.le_of_ble_eq_true rfl⟩ ⟨(Nat.le_of_ble_eq_true rfl), (Nat.le_of_ble_eq_true rfl)⟩ (Nat.le_of_ble_eq_true rfl) rfl dX6_copyFrom_45 (fun M15 h => ?_)
    refine x_iinc (v := (x2 + (J 1))) (L' := [(2, .int (x2 + (J 1))), (0, .ref a0), (1, .ref a1)]) E dX6_copyFrom_48 2 rfl rfl (by decide) rfl ?_
    refine x_goto (tgt := 10) E dX6_copyFrom_51 (by decide) ?_
    refine x_sub (L' := [(0, .ref a0), (1, .ref a1), (2, .int (x2 + (J 1)))]) [1, 2, 0] rfl ?_
    exact hk10 (M15, (x2 + (J 1))) h
theorem dX4_store_0 : decode cX4_store 0 = .ok (.aload_n 0, 1) := by decide +kernel
theorem dX4_store_1 : decode cX4_store 1 = .ok (.getfield 10, 3) := by decide +kernel
theorem dX4_store_4 : decode cX4_store 4 = .ok (.aload_n 1, 1) := by decide +kernel
theorem dX4_store_5 : decode cX4_store 5 = .ok (.invokevirtual 16, 3) := by decide +kernel
theorem dX4_store_8 : decode cX4_store 8 = .ok (.aload_n 0, 1) := by decide +kernel
theorem dX4_store_9 : decode cX4_store 9 = .ok (.iload_n 2, 1) := by decide +kernel
theorem dX4_store_10 : decode cX4_store 10 = .ok (.putfield 20, 3) := by decide +kernel
theorem dX4_store_13 : decode cX4_store 13 = .ok (.aload_n 0, 1) := by decide +kernel
theorem dX4_store_14 : decode cX4_store 14 = .ok (.iload_n 3, 1) := by decide +kernel
theorem dX4_store_15 : decode cX4_store 15 = .ok (.putfield 24, 3) := by decide +kernel
theorem dX4_store_18 : decode cX4_store 18 = .ok (.aload_n 0, 1) := by decide +kernel
theorem dX4_store_19 : decode cX4_store 19 = .ok (.iconst 1, 1) := by decide +kernel
theorem dX4_store_20 : decode cX4_store 20 = .ok (.putfield 27, 3) := by decide +kernel
theorem dX4_store_23 : decode cX4_store 23 = .ok (.return_, 1) := by decide +kernel
set_option maxHeartbeats 4000000 in
set_option maxRecDepth 100000 in
theorem kX4_store (l : Launch) (z : Nat) (D : va_G) (cA : Nat → ClassId) (a0 : Nat) (a1 : Nat) (x2 : Int32) (x3 : Int32) (M : Mem) (K : Mem → Prop) (h : PX4_store a0 a1 x2 x3 M K) : Met l yX4_store (.code yX4_store cX4_store 4 none :: gtbl) ({ frames := 2, cells := 0, slots := 0, locals := 44 } : Room) (va_Pc [.ref a0, .ref a1, .int x2, .int x3] (xB z D cA M)) (va_Qv K (xWd z D cA) (xA z)) 0 0 (xA z) := by
  refine x_met (by decide +kernel) (Nat.le_of_ble_eq_true rfl) (L0 := [(0, .ref a0), (1, .ref a1), (2, .int x2), (3, .int x3)]) rfl ?_
  intro p e s m args below meth c E hr hlk hnm
  have E : xE RX4 cX4_store 4 D cA p s m args c := E
  replace h := h.2
  refine x_aload_n E dX4_store_0 rfl 0 rfl ?_
  obtain ⟨hT, q1, hv, h⟩ := h
  refine x_get E flX4_10 dX4_store_1 hT hv ?_
  clear hT hv
  refine x_aload_n E dX4_store_4 rfl 1 rfl ?_
  refine x_callVv (T := TX6) (N := 3) (t := 7) (As := [.ref a1]) E mlX4_16 inX6_copyFrom seX6_copyFrom rfl ⟨by decide, by decide⟩ (tX6_copyFrom h) (kX6_copyFrom l z D cA q1 a1 M _ h) rfl ⟨rfl, rfl⟩ ⟨Nat.le_of_ble_eq_true rfl, Nat.le_of_ble_eq_true rfl⟩ ⟨(Nat.le_of_ble_eq_true rfl), (Nat.le_of_ble_eq_true rfl)⟩ (Nat.le_of_ble_eq_true rfl) rfl dX4_store_5 (fun M3 h => ?_)
  refine x_aload_n E dX4_store_8 rfl 0 rfl ?_
  refine x_iload_n E dX4_store_9 rfl 2 rfl ?_
  obtain ⟨hT, h⟩ := h
  refine x_put E flX4_20 ⟨tyX4_ok, nmX4, rfl⟩ (by decide +kernel) rfl rfl dX4_store_10 hT (fun M4 eM4 => ?_)
  replace h := h M4 eM4
  clear hT eM4
  refine x_aload_n E dX4_store_13 rfl 0 rfl ?_
  refine x_iload_n E dX4_store_14 rfl 3 rfl ?_
  obtain ⟨hT, h⟩ := h
  refine x_put E flX4_24 ⟨tyX4_ok, nmX4, rfl⟩ (by decide +kernel) rfl rfl dX4_store_15 hT (fun M5 eM5 => ?_)
  replace h := h M5 eM5
  clear hT eM5
  refine x_aload_n E dX4_store_18 rfl 0 rfl ?_
  refine x_iconst (v := (J 1)) E dX4_store_19 (by decide) ?_
  obtain ⟨hT, h⟩ := h
  refine x_put E flX4_27 ⟨tyX4_ok, nmX4, rfl⟩ (by decide +kernel) rfl rfl dX4_store_20 hT (fun M6 eM6 => ?_)
  replace h := h M6 eM6
  clear hT eM6
  exact x_vret E hr hlk dX4_store_23 h
theorem dX5_init_0 : decode cX5_init 0 = .ok (.aload_n 0, 1) := by decide +kernel
theorem dX5_init_1 : decode cX5_init 1 = .ok (.invokespecial 3, 3) := by decide +kernel
theorem dX5_init_4 : decode cX5_init 4 = .ok (.aload_n 0, 1) := by decide +kernel
theorem dX5_init_5 : decode cX5_init 5 = .ok (.aload_n 1, 1) := by decide +kernel
theorem dX5_init_6 : decode cX5_init 6 = .ok (.putfield 9, 3) := by decide +kernel
theorem dX5_init_9 : decode cX5_init 9 = .ok (.aload_n 0, 1) := by decide +kernel
theorem dX5_init_10 : decode cX5_init 10 = .ok (.aload_n 2, 1) := by decide +kernel
theorem dX5_init_11 : decode cX5_init 11 = .ok (.putfield 15, 3) := by decide +kernel
theorem dX5_init_14 : decode cX5_init 14 = .ok (.aload_n 0, 1) := by decide +kernel
theorem dX5_init_15 : decode cX5_init 15 = .ok (.aload_n 2, 1) := by decide +kernel
theorem dX5_init_16 : decode cX5_init 16 = .ok (.invokevirtual 19, 3) := by decide +kernel
theorem dX5_init_19 : decode cX5_init 19 = .ok (.putfield 25, 3) := by decide +kernel
theorem dX5_init_22 : decode cX5_init 22 = .ok (.aload_n 0, 1) := by decide +kernel
theorem dX5_init_23 : decode cX5_init 23 = .ok (.iconst 0, 1) := by decide +kernel
theorem dX5_init_24 : decode cX5_init 24 = .ok (.putfield 29, 3) := by decide +kernel
theorem dX5_init_27 : decode cX5_init 27 = .ok (.aload_n 0, 1) := by decide +kernel
theorem dX5_init_28 : decode cX5_init 28 = .ok (.iconst 0, 1) := by decide +kernel
theorem dX5_init_29 : decode cX5_init 29 = .ok (.putfield 33, 3) := by decide +kernel
theorem dX5_init_32 : decode cX5_init 32 = .ok (.aload_n 0, 1) := by decide +kernel
theorem dX5_init_33 : decode cX5_init 33 = .ok (.iconst (-1), 1) := by decide +kernel
theorem dX5_init_34 : decode cX5_init 34 = .ok (.putfield 36, 3) := by decide +kernel
theorem dX5_init_37 : decode cX5_init 37 = .ok (.aload_n 0, 1) := by decide +kernel
theorem dX5_init_38 : decode cX5_init 38 = .ok (.iconst 0, 1) := by decide +kernel
theorem dX5_init_39 : decode cX5_init 39 = .ok (.putfield 39, 3) := by decide +kernel
theorem dX5_init_42 : decode cX5_init 42 = .ok (.aload_n 0, 1) := by decide +kernel
theorem dX5_init_43 : decode cX5_init 43 = .ok (.iconst 0, 1) := by decide +kernel
theorem dX5_init_44 : decode cX5_init 44 = .ok (.putfield 42, 3) := by decide +kernel
theorem dX5_init_47 : decode cX5_init 47 = .ok (.return_, 1) := by decide +kernel
set_option maxHeartbeats 4000000 in
set_option maxRecDepth 100000 in
theorem kX5_init (l : Launch) (z : Nat) (D : va_G) (cA : Nat → ClassId) (a0 : Nat) (a1 : Nat) (a2 : Nat) (M : Mem) (K : Mem → Prop) (h : PX5_init a0 a1 a2 M K) : Met l yX5_init (.code yX5_init cX5_init 3 none :: gtbl) ({ frames := 2, cells := 0, slots := 0, locals := 42 } : Room) (va_Pc [.ref a0, .ref a1, .ref a2] (xB z D cA M)) (va_Qv K (xWd z D cA) (xA z)) 0 0 (xA z) := by
  refine x_met (by decide +kernel) (Nat.le_of_ble_eq_true rfl) (L0 := [(0, .ref a0), (1, .ref a1), (2, .ref a2)]) rfl ?_
  intro p e s m args below meth c E hr hlk hnm
  have E : xE RX5 cX5_init 3 D cA p s m args c := E
  replace h := h.2
  refine x_aload_n E dX5_init_0 rfl 0 rfl ?_
  refine x_objInit E (gw 286 (by decide +kernel) rfl) (gw 21 (by decide +kernel) rfl) (gw 22 (by decide +kernel) rfl) dX5_init_1 (Nat.le_of_ble_eq_true rfl) (Nat.le_of_ble_eq_true rfl) ?_
  refine x_aload_n E dX5_init_4 rfl 0 rfl ?_
  refine x_aload_n E dX5_init_5 rfl 1 rfl ?_
  obtain ⟨hT, h⟩ := h
  refine x_putF E flX5_9 (gw 295 (by decide +kernel) rfl) ⟨tyX5_ok, nmX5, rfl⟩ rfl hnm (by decide +kernel) rfl rfl dX5_init_6 hT (fun M1 eM1 => ?_)
  replace h := h M1 eM1
  clear hT eM1
  refine x_aload_n E dX5_init_9 rfl 0 rfl ?_
  refine x_aload_n E dX5_init_10 rfl 2 rfl ?_
  obtain ⟨hT, h⟩ := h
  refine x_putF E flX5_15 (gw 296 (by decide +kernel) rfl) ⟨tyX5_ok, nmX5, rfl⟩ rfl hnm (by decide +kernel) rfl rfl dX5_init_11 hT (fun M2 eM2 => ?_)
  replace h := h M2 eM2
  clear hT eM2
  refine x_aload_n E dX5_init_14 rfl 0 rfl ?_
  refine x_aload_n E dX5_init_15 rfl 2 rfl ?_
  refine x_callVr (T := TX2) (N := 4) (t := 3) (As := []) E mlX5_19 inX2_draft seX2_draft rfl ⟨by decide, by decide⟩ (tX2_draft h) (kX2_draft l z D cA a2 M2 _ h) rfl ⟨rfl, rfl⟩ ⟨Nat.le_of_ble_eq_true rfl, Nat.le_of_ble_eq_true rfl⟩ ⟨(Nat.le_of_ble_eq_true rfl), (Nat.le_of_ble_eq_true rfl)⟩ (Nat.le_of_ble_eq_true rfl) rfl dX5_init_16 (fun q3 h => ?_)
  obtain ⟨hT, h⟩ := h
  refine x_put E flX5_25 ⟨tyX5_ok, nmX5, rfl⟩ (by decide +kernel) rfl rfl dX5_init_19 hT (fun M5 eM5 => ?_)
  replace h := h M5 eM5
  clear hT eM5
  refine x_aload_n E dX5_init_22 rfl 0 rfl ?_
  refine x_iconst (v := (J 0)) E dX5_init_23 (by decide) ?_
  obtain ⟨hT, h⟩ := h
  refine x_put E flX5_29 ⟨tyX5_ok, nmX5, rfl⟩ (by decide +kernel) rfl rfl dX5_init_24 hT (fun M6 eM6 => ?_)
  replace h := h M6 eM6
  clear hT eM6
  refine x_aload_n E dX5_init_27 rfl 0 rfl ?_
  refine x_iconst (v := (J 0)) E dX5_init_28 (by decide) ?_
  obtain ⟨hT, h⟩ := h
  refine x_put E flX5_33 ⟨tyX5_ok, nmX5, rfl⟩ (by decide +kernel) rfl rfl dX5_init_29 hT (fun M7 eM7 => ?_)
  replace h := h M7 eM7
  clear hT eM7
  refine x_aload_n E dX5_init_32 rfl 0 rfl ?_
  refine x_iconst (v := (J (-1))) E dX5_init_33 (by decide) ?_
  obtain ⟨hT, h⟩ := h
  refine x_put E flX5_36 ⟨tyX5_ok, nmX5, rfl⟩ (by decide +kernel) rfl rfl dX5_init_34 hT (fun M8 eM8 => ?_)
  replace h := h M8 eM8
  clear hT eM8
  refine x_aload_n E dX5_init_37 rfl 0 rfl ?_
  refine x_iconst (v := (J 0)) E dX5_init_38 (by decide) ?_
  obtain ⟨hT, h⟩ := h
  refine x_put E flX5_39 ⟨tyX5_ok, nmX5, rfl⟩ (by decide +kernel) rfl rfl dX5_init_39 hT (fun M9 eM9 => ?_)
  replace h := h M9 eM9
  clear hT eM9
  refine x_aload_n E dX5_init_42 rfl 0 rfl ?_
  refine x_iconst (v := (J 0)) E dX5_init_43 (by decide) ?_
  obtain ⟨hT, h⟩ := h
  refine x_put E flX5_42 ⟨tyX5_ok, nmX5, rfl⟩ (by decide +kernel) rfl rfl dX5_init_44 hT (fun M10 eM10 => ?_)
  replace h := h M10 eM10
  clear hT eM10
  exact x_vret E hr hlk dX5_init_47 h
theorem dX5_next_0 : decode cX5_next 0 = .ok (.aload_n 0, 1) := by decide +kernel
theorem dX5_next_1 : decode cX5_next 1 = .ok (.getfield 9, 3) := by decide +kernel
theorem dX5_next_4 : decode cX5_next 4 = .ok (.aload_n 0, 1) := by decide +kernel
theorem dX5_next_5 : decode cX5_next 5 = .ok (.getfield 29, 3) := by decide +kernel
theorem dX5_next_8 : decode cX5_next 8 = .ok (.invokevirtual 113, 3) := by decide +kernel
theorem dX5_next_11 : decode cX5_next 11 = .ok (.ireturn, 1) := by decide +kernel
set_option maxHeartbeats 4000000 in
set_option maxRecDepth 100000 in
theorem kX5_next (l : Launch) (z : Nat) (D : va_G) (cA : Nat → ClassId) (a0 : Nat) (M : Mem) (K : Int32 → Prop) (h : PX5_next a0 M K) : Met l yX5_next (.code yX5_next cX5_next 1 (some .int) :: gtbl) ({ frames := 1, cells := 0, slots := 0, locals := 21 } : Room) (va_Pc [.ref a0] (xB z D cA M)) (va_Qi (fun r M1 => M1 = M ∧ K r) (xWd z D cA) (xA z)) 0 0 (xA z) := by
  refine x_met (by decide +kernel) (Nat.le_of_ble_eq_true rfl) (L0 := [(0, .ref a0)]) rfl ?_
  intro p e s m args below meth c E hr hlk hnm
  have E : xE RX5 cX5_next 1 D cA p s m args c := E
  replace h := h.2
  refine x_aload_n E dX5_next_0 rfl 0 rfl ?_
  obtain ⟨hT, q1, hv, h⟩ := h
  refine x_get E flX5_9 dX5_next_1 hT hv ?_
  clear hT hv
  refine x_aload_n E dX5_next_4 rfl 0 rfl ?_
  obtain ⟨hT, v2, hv, h⟩ := h
  refine x_get E flX5_29 dX5_next_5 hT hv ?_
  clear hT hv
  refine x_callVi (T := TX1) (N := 2) (t := 2) (As := [.int v2]) E mlX5_113 inX1_get seX1_get rfl ⟨by decide, by decide⟩ (tX1_get h) (kX1_get l z D cA q1 v2 M _ h) rfl ⟨rfl, rfl⟩ ⟨Nat.le_of_ble_eq_true rfl, Nat.le_of_ble_eq_true rfl⟩ ⟨(Nat.le_of_ble_eq_true rfl), (Nat.le_of_ble_eq_true rfl)⟩ (Nat.le_of_ble_eq_true rfl) rfl dX5_next_8 (x_pure (fun r3 h => ?_))
  exact x_iret E hr hlk dX5_next_11 ⟨rfl, h⟩
theorem dX5_skipBlanks_0 : decode cX5_skipBlanks 0 = .ok (.aload_n 0, 1) := by decide +kernel
theorem dX5_skipBlanks_1 : decode cX5_skipBlanks 1 = .ok (.getfield 29, 3) := by decide +kernel
theorem dX5_skipBlanks_4 : decode cX5_skipBlanks 4 = .ok (.istore_n 1, 1) := by decide +kernel
theorem dX5_skipBlanks_5 : decode cX5_skipBlanks 5 = .ok (.iconst 0, 1) := by decide +kernel
theorem dX5_skipBlanks_6 : decode cX5_skipBlanks 6 = .ok (.istore_n 2, 1) := by decide +kernel
theorem dX5_skipBlanks_7 : decode cX5_skipBlanks 7 = .ok (.iload_n 2, 1) := by decide +kernel
theorem dX5_skipBlanks_8 : decode cX5_skipBlanks 8 = .ok (.sipush 600, 3) := by decide +kernel
theorem dX5_skipBlanks_11 : decode cX5_skipBlanks 11 = .ok (.if_icmp .ge 28, 3) := by decide +kernel
theorem dX5_skipBlanks_14 : decode cX5_skipBlanks 14 = .ok (.aload_n 0, 1) := by decide +kernel
theorem dX5_skipBlanks_15 : decode cX5_skipBlanks 15 = .ok (.invokevirtual 76, 3) := by decide +kernel
theorem dX5_skipBlanks_18 : decode cX5_skipBlanks 18 = .ok (.bipush 32, 2) := by decide +kernel
theorem dX5_skipBlanks_20 : decode cX5_skipBlanks 20 = .ok (.if_icmp .ne 19, 3) := by decide +kernel
theorem dX5_skipBlanks_23 : decode cX5_skipBlanks 23 = .ok (.aload_n 0, 1) := by decide +kernel
theorem dX5_skipBlanks_24 : decode cX5_skipBlanks 24 = .ok (.dup, 1) := by decide +kernel
theorem dX5_skipBlanks_25 : decode cX5_skipBlanks 25 = .ok (.getfield 29, 3) := by decide +kernel
theorem dX5_skipBlanks_28 : decode cX5_skipBlanks 28 = .ok (.iconst 1, 1) := by decide +kernel
theorem dX5_skipBlanks_29 : decode cX5_skipBlanks 29 = .ok (.iadd, 1) := by decide +kernel
theorem dX5_skipBlanks_30 : decode cX5_skipBlanks 30 = .ok (.putfield 29, 3) := by decide +kernel
theorem dX5_skipBlanks_33 : decode cX5_skipBlanks 33 = .ok (.iinc 2 1, 3) := by decide +kernel
theorem dX5_skipBlanks_36 : decode cX5_skipBlanks 36 = .ok (.goto (-29), 3) := by decide +kernel
theorem dX5_skipBlanks_39 : decode cX5_skipBlanks 39 = .ok (.aload_n 0, 1) := by decide +kernel
theorem dX5_skipBlanks_40 : decode cX5_skipBlanks 40 = .ok (.getfield 29, 3) := by decide +kernel
theorem dX5_skipBlanks_43 : decode cX5_skipBlanks 43 = .ok (.iload_n 1, 1) := by decide +kernel
theorem dX5_skipBlanks_44 : decode cX5_skipBlanks 44 = .ok (.if_icmp .le 7, 3) := by decide +kernel
theorem dX5_skipBlanks_47 : decode cX5_skipBlanks 47 = .ok (.iconst 1, 1) := by decide +kernel
theorem dX5_skipBlanks_48 : decode cX5_skipBlanks 48 = .ok (.goto 4, 3) := by decide +kernel
theorem dX5_skipBlanks_51 : decode cX5_skipBlanks 51 = .ok (.iconst 0, 1) := by decide +kernel
theorem dX5_skipBlanks_52 : decode cX5_skipBlanks 52 = .ok (.ireturn, 1) := by decide +kernel
set_option maxHeartbeats 4000000 in
set_option maxRecDepth 100000 in
theorem kX5_skipBlanks (l : Launch) (z : Nat) (D : va_G) (cA : Nat → ClassId) (a0 : Nat) (M : Mem) (K : Int32 → Mem → Prop) (h : PX5_skipBlanks a0 M K) : Met l yX5_skipBlanks (.code yX5_skipBlanks cX5_skipBlanks 3 (some .boolean) :: gtbl) ({ frames := 2, cells := 0, slots := 0, locals := 41 } : Room) (va_Pc [.ref a0] (xB z D cA M)) (va_Qi K (xWd z D cA) (xA z)) 0 0 (xA z) := by
  refine x_met (by decide +kernel) (Nat.le_of_ble_eq_true rfl) (L0 := [(0, .ref a0)]) rfl ?_
  intro p e s m args below meth c E hr hlk hnm
  have E : xE RX5 cX5_skipBlanks 3 D cA p s m args c := E
  have hJ39 : ∀ (M : Mem) (j0 : Nat) (j1 : Int32), JX5_skipBlanks_39 K M j0 j1 → xG p l e ({ frames := 2, cells := 0, slots := 0, locals := 41 } : Room) s m args below meth c (MQ below (va_Qi K (xWd z D cA) (xA z)) args s 0 0 (xA z)) 3 z D cA M (0) (0) 39 [(0, .ref j0), (1, .int j1)] [] := by
    intro M j0 j1 h
    refine x_aload_n E dX5_skipBlanks_39 rfl 0 rfl ?_
    obtain ⟨hT, v3, hv, h⟩ := h
    refine x_get E flX5_29 dX5_skipBlanks_40 hT hv ?_
    clear hT hv
    refine x_iload_n E dX5_skipBlanks_43 rfl 1 rfl ?_
    refine x_icmp_le (tgt := 51) E dX5_skipBlanks_44 (by decide) (fun c4 => ?_) (fun c4 => ?_)
    · replace h := xbr_t h c4
      clear c4
      refine x_iconst (v := (J 0)) E dX5_skipBlanks_51 (by decide) ?_
      exact x_zret E hr hlk dX5_skipBlanks_52 h.1 h.2
    · replace h := xbr_f h c4
      clear c4
      refine x_iconst (v := (J 1)) E dX5_skipBlanks_47 (by decide) ?_
      refine x_goto (tgt := 52) E dX5_skipBlanks_48 (by decide) ?_
      exact x_zret E hr hlk dX5_skipBlanks_52 h.1 h.2
  replace h := h.2
  refine x_aload_n E dX5_skipBlanks_0 rfl 0 rfl ?_
  obtain ⟨hT, v1, hv, h⟩ := h
  refine x_get E flX5_29 dX5_skipBlanks_1 hT hv ?_
  clear hT hv
  refine x_istore_n (L' := [(1, .int v1), (0, .ref a0)]) E dX5_skipBlanks_4 rfl (by decide) rfl ?_
  refine x_iconst (v := (J 0)) E dX5_skipBlanks_5 (by decide) ?_
  refine x_istore_n (L' := [(2, .int (J 0)), (1, .int v1), (0, .ref a0)]) E dX5_skipBlanks_6 rfl (by decide) rfl ?_
  refine x_sub (L' := [(0, .ref a0), (1, .int v1), (2, .int (J 0))]) [2, 1, 0] rfl ?_
  refine lp_sound (T := fun sv => xG p l e ({ frames := 2, cells := 0, slots := 0, locals := 41 } : Room) s m args below meth c (MQ below (va_Qi K (xWd z D cA) (xA z)) args s 0 0 (xA z)) 3 z D cA sv.1 (0) (0) 7 [(0, .ref a0), (1, .int v1), (2, .int sv.2)] []) ?_ (M, (J 0)) h
  clear h
  intro kc7 hk7 sv h
  obtain ⟨M, x2⟩ := sv
  replace h : CX5_skipBlanks_7 K a0 v1 kc7 M x2 := h
  try dsimp only
  refine x_iload_n E dX5_skipBlanks_7 rfl 2 rfl ?_
  refine x_sipush (v := (J 600)) E dX5_skipBlanks_8 (by decide) ?_
  refine x_icmp_ge (tgt := 39) E dX5_skipBlanks_11 (by decide) (fun c2 => ?_) (fun c2 => ?_)
  · replace h := xbr_t h c2
    clear c2
    refine x_sub (L' := [(0, .ref a0), (1, .int v1)]) [0, 1] rfl ?_
    exact hJ39 M a0 v1 h
  · replace h := xbr_f h c2
    clear c2
    refine x_aload_n E dX5_skipBlanks_14 rfl 0 rfl ?_
    refine x_callVi (T := TX5) (N := 8) (t := 6) (As := []) E mlX5_76 inX5_next seX5_next rfl ⟨by decide, by decide⟩ (tX5_next h) (kX5_next l z D cA a0 M _ h) rfl ⟨rfl, rfl⟩ ⟨Nat.le_of_ble_eq_true rfl, Nat.le_of_ble_eq_true rfl⟩ ⟨(Nat.le_of_ble_eq_true rfl), (Nat.le_of_ble_eq_true rfl)⟩ (Nat.le_of_ble_eq_true rfl) rfl dX5_skipBlanks_15 (x_pure (fun r5 h => ?_))
    refine x_bipush (v := (J 32)) E dX5_skipBlanks_18 (by decide) ?_
    refine x_icmp_ne (tgt := 39) E dX5_skipBlanks_20 (by decide) (fun c7 => ?_) (fun c7 => ?_)
    · replace h := xbr_f h c7
      clear c7
      refine x_sub (L' := [(0, .ref a0), (1, .int v1)]) [0, 1] rfl ?_
      exact hJ39 M a0 v1 h
    · replace h := xbr_t h c7
      clear c7
      refine x_aload_n E dX5_skipBlanks_23 rfl 0 rfl ?_
      refine x_dup E dX5_skipBlanks_24 rfl ?_
      obtain ⟨hT, v8, hv, h⟩ := h
      refine x_get E flX5_29 dX5_skipBlanks_25 hT hv ?_
      clear hT hv
      refine x_iconst (v := (J 1)) E dX5_skipBlanks_28 (by decide) ?_
      refine x_iadd E dX5_skipBlanks_29 ?_
      obtain ⟨hT, h⟩ := h
      refine x_put E flX5_29 ⟨tyX5_ok, nmX5, rfl⟩ (by decide +kernel) rfl rfl dX5_skipBlanks_30 hT (fun M9 eM9 => ?_)
      replace h := h M9 eM9
      clear hT eM9
      refine x_iinc (v := (x2 + (J 1))) (L' := [(2, .int (x2 + (J 1))), (0, .ref a0), (1, .int v1)]) E dX5_skipBlanks_33 2 rfl rfl (by decide) rfl ?_
      refine x_goto (tgt := 7) E dX5_skipBlanks_36 (by decide) ?_
      refine x_sub (L' := [(0, .ref a0), (1, .int v1), (2, .int (x2 + (J 1)))]) [1, 2, 0] rfl ?_
      exact hk7 (M9, (x2 + (J 1))) h
theorem dX5_isLetter_0 : decode cX5_isLetter 0 = .ok (.iload_n 0, 1) := by decide +kernel
theorem dX5_isLetter_1 : decode cX5_isLetter 1 = .ok (.bipush 97, 2) := by decide +kernel
theorem dX5_isLetter_3 : decode cX5_isLetter 3 = .ok (.if_icmp .lt 13, 3) := by decide +kernel
theorem dX5_isLetter_6 : decode cX5_isLetter 6 = .ok (.iload_n 0, 1) := by decide +kernel
theorem dX5_isLetter_7 : decode cX5_isLetter 7 = .ok (.bipush 122, 2) := by decide +kernel
theorem dX5_isLetter_9 : decode cX5_isLetter 9 = .ok (.if_icmp .gt 7, 3) := by decide +kernel
theorem dX5_isLetter_12 : decode cX5_isLetter 12 = .ok (.iconst 1, 1) := by decide +kernel
theorem dX5_isLetter_13 : decode cX5_isLetter 13 = .ok (.goto 4, 3) := by decide +kernel
theorem dX5_isLetter_16 : decode cX5_isLetter 16 = .ok (.iconst 0, 1) := by decide +kernel
theorem dX5_isLetter_17 : decode cX5_isLetter 17 = .ok (.ireturn, 1) := by decide +kernel
set_option maxHeartbeats 4000000 in
set_option maxRecDepth 100000 in
theorem kX5_isLetter (l : Launch) (z : Nat) (D : va_G) (cA : Nat → ClassId) (x0 : Int32) (M : Mem) (K : Int32 → Prop) (h : PX5_isLetter x0 M K) : Met l yX5_isLetter (.code yX5_isLetter cX5_isLetter 1 (some .boolean) :: gtbl) ({ frames := 0, cells := 0, slots := 0, locals := 0 } : Room) (va_Pc [.int x0] (xB z D cA M)) (va_Qi (fun r M1 => M1 = M ∧ K r) (xWd z D cA) (xA z)) 0 0 (xA z) := by
  refine x_met (by decide +kernel) (Nat.le_of_ble_eq_true rfl) (L0 := [(0, .int x0)]) rfl ?_
  intro p e s m args below meth c E hr hlk hnm
  have E : xE RX5 cX5_isLetter 1 D cA p s m args c := E
  refine x_iload_n E dX5_isLetter_0 rfl 0 rfl ?_
  refine x_bipush (v := (J 97)) E dX5_isLetter_1 (by decide) ?_
  refine x_icmp_lt (tgt := 16) E dX5_isLetter_3 (by decide) (fun c1 => ?_) (fun c1 => ?_)
  · replace h := xbr_t h c1
    clear c1
    refine x_iconst (v := (J 0)) E dX5_isLetter_16 (by decide) ?_
    exact x_zret E hr hlk dX5_isLetter_17 h.1 ⟨rfl, h.2⟩
  · replace h := xbr_f h c1
    clear c1
    refine x_iload_n E dX5_isLetter_6 rfl 0 rfl ?_
    refine x_bipush (v := (J 122)) E dX5_isLetter_7 (by decide) ?_
    refine x_icmp_gt (tgt := 16) E dX5_isLetter_9 (by decide) (fun c2 => ?_) (fun c2 => ?_)
    · replace h := xbr_t h c2
      clear c2
      refine x_iconst (v := (J 0)) E dX5_isLetter_16 (by decide) ?_
      exact x_zret E hr hlk dX5_isLetter_17 h.1 ⟨rfl, h.2⟩
    · replace h := xbr_f h c2
      clear c2
      refine x_iconst (v := (J 1)) E dX5_isLetter_12 (by decide) ?_
      refine x_goto (tgt := 17) E dX5_isLetter_13 (by decide) ?_
      exact x_zret E hr hlk dX5_isLetter_17 h.1 ⟨rfl, h.2⟩
