/-! contracts (by program) -/
theorem dX11_guide_0 : decode cX11_guide 0 = .ok (.iload_n 1, 1) := by decide +kernel
theorem dX11_guide_1 : decode cX11_guide 1 = .ok (.invokestatic 234, 3) := by decide +kernel
theorem dX11_guide_4 : decode cX11_guide 4 = .ok (.ifCond .ne 7, 3) := by decide +kernel
theorem dX11_guide_7 : decode cX11_guide 7 = .ok (.sipush (-1001), 3) := by decide +kernel
theorem dX11_guide_10 : decode cX11_guide 10 = .ok (.ireturn, 1) := by decide +kernel
theorem dX11_guide_11 : decode cX11_guide 11 = .ok (.aload_n 0, 1) := by decide +kernel
theorem dX11_guide_12 : decode cX11_guide 12 = .ok (.iload_n 1, 1) := by decide +kernel
theorem dX11_guide_13 : decode cX11_guide 13 = .ok (.invokevirtual 290, 3) := by decide +kernel
theorem dX11_guide_16 : decode cX11_guide 16 = .ok (.istore_n 3, 1) := by decide +kernel
theorem dX11_guide_17 : decode cX11_guide 17 = .ok (.iload_n 2, 1) := by decide +kernel
theorem dX11_guide_18 : decode cX11_guide 18 = .ok (.iconst (-1), 1) := by decide +kernel
theorem dX11_guide_19 : decode cX11_guide 19 = .ok (.if_icmp .ne 7, 3) := by decide +kernel
theorem dX11_guide_22 : decode cX11_guide 22 = .ok (.iload_n 3, 1) := by decide +kernel
theorem dX11_guide_23 : decode cX11_guide 23 = .ok (.goto 26, 3) := by decide +kernel
theorem dX11_guide_26 : decode cX11_guide 26 = .ok (.iload_n 2, 1) := by decide +kernel
theorem dX11_guide_27 : decode cX11_guide 27 = .ok (.i2l, 1) := by decide +kernel
theorem dX11_guide_28 : decode cX11_guide 28 = .ok (.lconst 0, 1) := by decide +kernel
theorem dX11_guide_29 : decode cX11_guide 29 = .ok (.iload_n 3, 1) := by decide +kernel
theorem dX11_guide_30 : decode cX11_guide 30 = .ok (.iconst 1, 1) := by decide +kernel
theorem dX11_guide_31 : decode cX11_guide 31 = .ok (.isub, 1) := by decide +kernel
theorem dX11_guide_32 : decode cX11_guide 32 = .ok (.i2l, 1) := by decide +kernel
theorem dX11_guide_33 : decode cX11_guide 33 = .ok (.invokestatic 78, 3) := by decide +kernel
theorem dX11_guide_36 : decode cX11_guide 36 = .ok (.ifCond .eq 12, 3) := by decide +kernel
theorem dX11_guide_39 : decode cX11_guide 39 = .ok (.aload_n 0, 1) := by decide +kernel
theorem dX11_guide_40 : decode cX11_guide 40 = .ok (.getfield 56, 3) := by decide +kernel
theorem dX11_guide_43 : decode cX11_guide 43 = .ok (.iload_n 2, 1) := by decide +kernel
theorem dX11_guide_44 : decode cX11_guide 44 = .ok (.iaload, 1) := by decide +kernel
theorem dX11_guide_45 : decode cX11_guide 45 = .ok (.goto 4, 3) := by decide +kernel
theorem dX11_guide_48 : decode cX11_guide 48 = .ok (.iconst (-1), 1) := by decide +kernel
theorem dX11_guide_49 : decode cX11_guide 49 = .ok (.ireturn, 1) := by decide +kernel
set_option maxHeartbeats 4000000 in
set_option maxRecDepth 100000 in
theorem kX11_guide (l : Launch) (z : Nat) (D : va_G) (cA : Nat → ClassId) (a0 : Nat) (x1 : Int32) (x2 : Int32) (M : Mem) (K : Int32 → Mem → Prop) (h : PX11_guide a0 x1 x2 M K) : Met l yX11_guide (.code yX11_guide cX11_guide 4 (some .int) :: gtbl) ({ frames := 4, cells := 0, slots := 0, locals := 91 } : Room) (va_Pc [.ref a0, .int x1, .int x2] (xB z D cA M)) (va_Qi K (xWd z D cA) (xA z)) 0 0 (xA z) := by
  refine x_met (by decide +kernel) (Nat.le_of_ble_eq_true rfl) (L0 := [(0, .ref a0), (1, .int x1), (2, .int x2)]) rfl ?_
  intro p e s m args below meth c E hr hlk hnm
  have E : xE RX11 cX11_guide 4 D cA p s m args c := E
  replace h := h.2
  refine x_iload_n E dX11_guide_0 rfl 1 rfl ?_
  refine x_callSi (As := [.int x1]) E mlX11_234 rfl stX11_isShelf (kX11_isShelf l z D cA x1 M _ h) rfl ⟨rfl, rfl⟩ ⟨Nat.le_of_ble_eq_true rfl, Nat.le_of_ble_eq_true rfl⟩ ⟨(Nat.le_of_ble_eq_true rfl), (Nat.le_of_ble_eq_true rfl)⟩ (Nat.le_of_ble_eq_true rfl) rfl dX11_guide_1 (x_pure (fun r1 h => ?_))
  refine x_if_ne (tgt := 11) E dX11_guide_4 (by decide) (fun c3 => ?_) (fun c3 => ?_)
  · replace h := xbr_f h c3
    clear c3
    refine x_aload_n E dX11_guide_11 rfl 0 rfl ?_
    refine x_iload_n E dX11_guide_12 rfl 1 rfl ?_
    refine x_callVi (T := TX11) (N := 32) (t := 12) (As := [.int x1]) E mlX11_290 inX11_findGuide seX11_findGuide rfl ⟨by decide, by decide⟩ (tX11_findGuide h) (kX11_findGuide l z D cA a0 x1 M _ h) rfl ⟨rfl, rfl⟩ ⟨Nat.le_of_ble_eq_true rfl, Nat.le_of_ble_eq_true rfl⟩ ⟨(Nat.le_of_ble_eq_true rfl), (Nat.le_of_ble_eq_true rfl)⟩ (Nat.le_of_ble_eq_true rfl) rfl dX11_guide_13 (fun r4 M5 h => ?_)
    refine x_istore_n (L' := [(3, .int r4), (0, .ref a0), (1, .int x1), (2, .int x2)]) E dX11_guide_16 rfl (by decide) rfl ?_
    refine x_iload_n E dX11_guide_17 rfl 3 rfl ?_
    refine x_iconst (v := (J (-1))) E dX11_guide_18 (by decide) ?_
    refine x_icmp_ne (tgt := 26) E dX11_guide_19 (by decide) (fun c6 => ?_) (fun c6 => ?_)
    · replace h := xbr_f h c6
      clear c6
      refine x_iload_n E dX11_guide_26 rfl 3 rfl ?_
      refine x_i2l E dX11_guide_27 ?_
      refine x_lconst (v := (LJ 0)) E dX11_guide_28 (by decide) ?_
      refine x_iload_n E dX11_guide_29 rfl 0 rfl ?_
      refine x_iconst (v := (J 1)) E dX11_guide_30 (by decide) ?_
      refine x_isub E dX11_guide_31 ?_
      refine x_i2l E dX11_guide_32 ?_
      refine x_callSi (As := [.long x2.toInt64, .long (LJ 0), .long (r4 - (J 1)).toInt64]) E mlX11_78 rfl stX11_in (kX11_in l z D cA x2.toInt64 (LJ 0) (r4 - (J 1)).toInt64 M5 _ h) rfl ⟨rfl, rfl⟩ ⟨Nat.le_of_ble_eq_true rfl, Nat.le_of_ble_eq_true rfl⟩ ⟨(Nat.le_of_ble_eq_true rfl), (Nat.le_of_ble_eq_true rfl)⟩ (Nat.le_of_ble_eq_true rfl) rfl dX11_guide_33 (x_pure (fun r7 h => ?_))
      refine x_if_eq (tgt := 48) E dX11_guide_36 (by decide) (fun c9 => ?_) (fun c9 => ?_)
      · replace h := xbr_t h c9
        clear c9
        refine x_iconst (v := (J (-1))) E dX11_guide_48 (by decide) ?_
        exact x_iret E hr hlk dX11_guide_49 h
      · replace h := xbr_f h c9
        clear c9
        refine x_aload_n E dX11_guide_39 rfl 1 rfl ?_
        obtain ⟨hT, q10, hv, h⟩ := h
        refine x_get E flX11_56 dX11_guide_40 hT hv ?_
        clear hT hv
        refine x_iload_n E dX11_guide_43 rfl 3 rfl ?_
        obtain ⟨hT, hi, v11, hv, h⟩ := h
        refine x_iald E dX11_guide_44 hT hi hv ?_
        clear hT hi hv
        refine x_goto (tgt := 49) E dX11_guide_45 (by decide) ?_
        exact x_iret E hr hlk dX11_guide_49 h
    · replace h := xbr_t h c6
      clear c6
      refine x_iload_n E dX11_guide_22 rfl 0 rfl ?_
      refine x_goto (tgt := 49) E dX11_guide_23 (by decide) ?_
      exact x_iret E hr hlk dX11_guide_49 h
  · replace h := xbr_t h c3
    clear c3
    refine x_sipush (v := (J (-1001))) E dX11_guide_7 (by decide) ?_
    exact x_iret E hr hlk dX11_guide_10 h
theorem dX11_areBooks_0 : decode cX11_areBooks 0 = .ok (.iload_n 1, 1) := by decide +kernel
theorem dX11_areBooks_1 : decode cX11_areBooks 1 = .ok (.i2l, 1) := by decide +kernel
theorem dX11_areBooks_2 : decode cX11_areBooks 2 = .ok (.lconst 0, 1) := by decide +kernel
theorem dX11_areBooks_3 : decode cX11_areBooks 3 = .ok (.iconst 1, 1) := by decide +kernel
theorem dX11_areBooks_4 : decode cX11_areBooks 4 = .ok (.aload_n 0, 1) := by decide +kernel
theorem dX11_areBooks_5 : decode cX11_areBooks 5 = .ok (.getfield 75, 3) := by decide +kernel
theorem dX11_areBooks_8 : decode cX11_areBooks 8 = .ok (.ishl, 1) := by decide +kernel
theorem dX11_areBooks_9 : decode cX11_areBooks 9 = .ok (.iconst 1, 1) := by decide +kernel
theorem dX11_areBooks_10 : decode cX11_areBooks 10 = .ok (.isub, 1) := by decide +kernel
theorem dX11_areBooks_11 : decode cX11_areBooks 11 = .ok (.i2l, 1) := by decide +kernel
theorem dX11_areBooks_12 : decode cX11_areBooks 12 = .ok (.invokestatic 78, 3) := by decide +kernel
theorem dX11_areBooks_15 : decode cX11_areBooks 15 = .ok (.ireturn, 1) := by decide +kernel
set_option maxHeartbeats 4000000 in
set_option maxRecDepth 100000 in
theorem kX11_areBooks (l : Launch) (z : Nat) (D : va_G) (cA : Nat → ClassId) (a0 : Nat) (x1 : Int32) (M : Mem) (K : Int32 → Prop) (h : PX11_areBooks a0 x1 M K) : Met l yX11_areBooks (.code yX11_areBooks cX11_areBooks 2 (some .boolean) :: gtbl) ({ frames := 1, cells := 0, slots := 0, locals := 25 } : Room) (va_Pc [.ref a0, .int x1] (xB z D cA M)) (va_Qi (fun r M1 => M1 = M ∧ K r) (xWd z D cA) (xA z)) 0 0 (xA z) := by
  refine x_met (by decide +kernel) (Nat.le_of_ble_eq_true rfl) (L0 := [(0, .ref a0), (1, .int x1)]) rfl ?_
  intro p e s m args below meth c E hr hlk hnm
  have E : xE RX11 cX11_areBooks 2 D cA p s m args c := E
  replace h := h.2
  refine x_iload_n E dX11_areBooks_0 rfl 1 rfl ?_
  refine x_i2l E dX11_areBooks_1 ?_
  refine x_lconst (v := (LJ 0)) E dX11_areBooks_2 (by decide) ?_
  refine x_iconst (v := (J 1)) E dX11_areBooks_3 (by decide) ?_
  refine x_aload_n E dX11_areBooks_4 rfl 0 rfl ?_
  obtain ⟨hT, v1, hv, h⟩ := h
  refine x_get E flX11_75 dX11_areBooks_5 hT hv ?_
  clear hT hv
  refine x_ishl E dX11_areBooks_8 ?_
  refine x_iconst (v := (J 1)) E dX11_areBooks_9 (by decide) ?_
  refine x_isub E dX11_areBooks_10 ?_
  refine x_i2l E dX11_areBooks_11 ?_
  refine x_callSi (As := [.long x1.toInt64, .long (LJ 0), .long (((J 1) <<< (v1 &&& 31)) - (J 1)).toInt64]) E mlX11_78 rfl stX11_in (kX11_in l z D cA x1.toInt64 (LJ 0) (((J 1) <<< (v1 &&& 31)) - (J 1)).toInt64 M _ h) rfl ⟨rfl, rfl⟩ ⟨Nat.le_of_ble_eq_true rfl, Nat.le_of_ble_eq_true rfl⟩ ⟨(Nat.le_of_ble_eq_true rfl), (Nat.le_of_ble_eq_true rfl)⟩ (Nat.le_of_ble_eq_true rfl) rfl dX11_areBooks_12 (x_pure (fun r2 h => ?_))
  exact x_zret E hr hlk dX11_areBooks_15 h.1 ⟨rfl, h.2⟩
theorem dX11_list_0 : decode cX11_list 0 = .ok (.aload_n 0, 1) := by decide +kernel
theorem dX11_list_1 : decode cX11_list 1 = .ok (.iload_n 1, 1) := by decide +kernel
theorem dX11_list_2 : decode cX11_list 2 = .ok (.invokevirtual 293, 3) := by decide +kernel
theorem dX11_list_5 : decode cX11_list 5 = .ok (.ifCond .ne 7, 3) := by decide +kernel
theorem dX11_list_8 : decode cX11_list 8 = .ok (.sipush (-1002), 3) := by decide +kernel
theorem dX11_list_11 : decode cX11_list 11 = .ok (.ireturn, 1) := by decide +kernel
theorem dX11_list_12 : decode cX11_list 12 = .ok (.aload_n 0, 1) := by decide +kernel
theorem dX11_list_13 : decode cX11_list 13 = .ok (.getfield 225, 3) := by decide +kernel
theorem dX11_list_16 : decode cX11_list 16 = .ok (.istore_n 2, 1) := by decide +kernel
theorem dX11_list_17 : decode cX11_list 17 = .ok (.aload_n 0, 1) := by decide +kernel
theorem dX11_list_18 : decode cX11_list 18 = .ok (.iload_n 1, 1) := by decide +kernel
theorem dX11_list_19 : decode cX11_list 19 = .ok (.putfield 225, 3) := by decide +kernel
theorem dX11_list_22 : decode cX11_list 22 = .ok (.iload_n 2, 1) := by decide +kernel
theorem dX11_list_23 : decode cX11_list 23 = .ok (.ireturn, 1) := by decide +kernel
set_option maxHeartbeats 4000000 in
set_option maxRecDepth 100000 in
theorem kX11_list (l : Launch) (z : Nat) (D : va_G) (cA : Nat → ClassId) (a0 : Nat) (x1 : Int32) (M : Mem) (K : Int32 → Mem → Prop) (h : PX11_list a0 x1 M K) : Met l yX11_list (.code yX11_list cX11_list 3 (some .int) :: gtbl) ({ frames := 2, cells := 0, slots := 0, locals := 46 } : Room) (va_Pc [.ref a0, .int x1] (xB z D cA M)) (va_Qi K (xWd z D cA) (xA z)) 0 0 (xA z) := by
  refine x_met (by decide +kernel) (Nat.le_of_ble_eq_true rfl) (L0 := [(0, .ref a0), (1, .int x1)]) rfl ?_
  intro p e s m args below meth c E hr hlk hnm
  have E : xE RX11 cX11_list 3 D cA p s m args c := E
  replace h := h.2
  refine x_aload_n E dX11_list_0 rfl 0 rfl ?_
  refine x_iload_n E dX11_list_1 rfl 1 rfl ?_
  refine x_callVi (T := TX11) (N := 32) (t := 12) (As := [.int x1]) E mlX11_293 inX11_areBooks seX11_areBooks rfl ⟨by decide, by decide⟩ (tX11_areBooks h) (kX11_areBooks l z D cA a0 x1 M _ h) rfl ⟨rfl, rfl⟩ ⟨Nat.le_of_ble_eq_true rfl, Nat.le_of_ble_eq_true rfl⟩ ⟨(Nat.le_of_ble_eq_true rfl), (Nat.le_of_ble_eq_true rfl)⟩ (Nat.le_of_ble_eq_true rfl) rfl dX11_list_2 (x_pure (fun r1 h => ?_))
  refine x_if_ne (tgt := 12) E dX11_list_5 (by decide) (fun c3 => ?_) (fun c3 => ?_)
  · replace h := xbr_f h c3
    clear c3
    refine x_aload_n E dX11_list_12 rfl 0 rfl ?_
    obtain ⟨hT, v4, hv, h⟩ := h
    refine x_get E flX11_225 dX11_list_13 hT hv ?_
    clear hT hv
    refine x_istore_n (L' := [(2, .int v4), (0, .ref a0), (1, .int x1)]) E dX11_list_16 rfl (by decide) rfl ?_
    refine x_aload_n E dX11_list_17 rfl 1 rfl ?_
    refine x_iload_n E dX11_list_18 rfl 2 rfl ?_
    obtain ⟨hT, h⟩ := h
    refine x_put E flX11_225 ⟨tyX11_ok, nmX11, rfl⟩ (by decide +kernel) rfl rfl dX11_list_19 hT (fun M5 eM5 => ?_)
    replace h := h M5 eM5
    clear hT eM5
    refine x_iload_n E dX11_list_22 rfl 0 rfl ?_
    exact x_iret E hr hlk dX11_list_23 h
  · replace h := xbr_t h c3
    clear c3
    refine x_sipush (v := (J (-1002))) E dX11_list_8 (by decide) ?_
    exact x_iret E hr hlk dX11_list_11 h
theorem dX11_stock_0 : decode cX11_stock 0 = .ok (.iload_n 1, 1) := by decide +kernel
theorem dX11_stock_1 : decode cX11_stock 1 = .ok (.i2l, 1) := by decide +kernel
theorem dX11_stock_2 : decode cX11_stock 2 = .ok (.lconst 0, 1) := by decide +kernel
theorem dX11_stock_3 : decode cX11_stock 3 = .ok (.lconst 1, 1) := by decide +kernel
theorem dX11_stock_4 : decode cX11_stock 4 = .ok (.invokestatic 78, 3) := by decide +kernel
theorem dX11_stock_7 : decode cX11_stock 7 = .ok (.ifCond .ne 7, 3) := by decide +kernel
theorem dX11_stock_10 : decode cX11_stock 10 = .ok (.sipush (-1002), 3) := by decide +kernel
theorem dX11_stock_13 : decode cX11_stock 13 = .ok (.ireturn, 1) := by decide +kernel
theorem dX11_stock_14 : decode cX11_stock 14 = .ok (.iconst 0, 1) := by decide +kernel
theorem dX11_stock_15 : decode cX11_stock 15 = .ok (.istore_n 2, 1) := by decide +kernel
theorem dX11_stock_16 : decode cX11_stock 16 = .ok (.iconst 0, 1) := by decide +kernel
theorem dX11_stock_17 : decode cX11_stock 17 = .ok (.istore_n 3, 1) := by decide +kernel
theorem dX11_stock_18 : decode cX11_stock 18 = .ok (.iload_n 3, 1) := by decide +kernel
theorem dX11_stock_19 : decode cX11_stock 19 = .ok (.aload_n 0, 1) := by decide +kernel
theorem dX11_stock_20 : decode cX11_stock 20 = .ok (.getfield 222, 3) := by decide +kernel
theorem dX11_stock_23 : decode cX11_stock 23 = .ok (.if_icmp .ge 20, 3) := by decide +kernel
theorem dX11_stock_26 : decode cX11_stock 26 = .ok (.iload_n 2, 1) := by decide +kernel
theorem dX11_stock_27 : decode cX11_stock 27 = .ok (.iconst 1, 1) := by decide +kernel
theorem dX11_stock_28 : decode cX11_stock 28 = .ok (.aload_n 0, 1) := by decide +kernel
theorem dX11_stock_29 : decode cX11_stock 29 = .ok (.getfield 28, 3) := by decide +kernel
theorem dX11_stock_32 : decode cX11_stock 32 = .ok (.iload_n 3, 1) := by decide +kernel
theorem dX11_stock_33 : decode cX11_stock 33 = .ok (.iaload, 1) := by decide +kernel
theorem dX11_stock_34 : decode cX11_stock 34 = .ok (.ishl, 1) := by decide +kernel
theorem dX11_stock_35 : decode cX11_stock 35 = .ok (.ior, 1) := by decide +kernel
theorem dX11_stock_36 : decode cX11_stock 36 = .ok (.istore_n 2, 1) := by decide +kernel
theorem dX11_stock_37 : decode cX11_stock 37 = .ok (.iinc 3 1, 3) := by decide +kernel
theorem dX11_stock_40 : decode cX11_stock 40 = .ok (.goto (-22), 3) := by decide +kernel
theorem dX11_stock_43 : decode cX11_stock 43 = .ok (.iload_n 1, 1) := by decide +kernel
theorem dX11_stock_44 : decode cX11_stock 44 = .ok (.ifCond .ne 14, 3) := by decide +kernel
theorem dX11_stock_47 : decode cX11_stock 47 = .ok (.aload_n 0, 1) := by decide +kernel
theorem dX11_stock_48 : decode cX11_stock 48 = .ok (.getfield 225, 3) := by decide +kernel
theorem dX11_stock_51 : decode cX11_stock 51 = .ok (.iload_n 2, 1) := by decide +kernel
theorem dX11_stock_52 : decode cX11_stock 52 = .ok (.iconst (-1), 1) := by decide +kernel
theorem dX11_stock_53 : decode cX11_stock 53 = .ok (.ixor, 1) := by decide +kernel
theorem dX11_stock_54 : decode cX11_stock 54 = .ok (.iand, 1) := by decide +kernel
theorem dX11_stock_55 : decode cX11_stock 55 = .ok (.goto 11, 3) := by decide +kernel
theorem dX11_stock_58 : decode cX11_stock 58 = .ok (.iload_n 2, 1) := by decide +kernel
theorem dX11_stock_59 : decode cX11_stock 59 = .ok (.aload_n 0, 1) := by decide +kernel
theorem dX11_stock_60 : decode cX11_stock 60 = .ok (.getfield 225, 3) := by decide +kernel
theorem dX11_stock_63 : decode cX11_stock 63 = .ok (.iconst (-1), 1) := by decide +kernel
theorem dX11_stock_64 : decode cX11_stock 64 = .ok (.ixor, 1) := by decide +kernel
theorem dX11_stock_65 : decode cX11_stock 65 = .ok (.iand, 1) := by decide +kernel
theorem dX11_stock_66 : decode cX11_stock 66 = .ok (.ireturn, 1) := by decide +kernel
set_option maxHeartbeats 4000000 in
set_option maxRecDepth 100000 in
theorem kX11_stock (l : Launch) (z : Nat) (D : va_G) (cA : Nat → ClassId) (a0 : Nat) (x1 : Int32) (M : Mem) (K : Int32 → Prop) (h : PX11_stock a0 x1 M K) : Met l yX11_stock (.code yX11_stock cX11_stock 4 (some .int) :: gtbl) ({ frames := 1, cells := 0, slots := 0, locals := 25 } : Room) (va_Pc [.ref a0, .int x1] (xB z D cA M)) (va_Qi (fun r M1 => M1 = M ∧ K r) (xWd z D cA) (xA z)) 0 0 (xA z) := by
  refine x_met (by decide +kernel) (Nat.le_of_ble_eq_true rfl) (L0 := [(0, .ref a0), (1, .int x1)]) rfl ?_
  intro p e s m args below meth c E hr hlk hnm
  have E : xE RX11 cX11_stock 4 D cA p s m args c := E
  replace h := h.2
  refine x_iload_n E dX11_stock_0 rfl 1 rfl ?_
  refine x_i2l E dX11_stock_1 ?_
  refine x_lconst (v := (LJ 0)) E dX11_stock_2 (by decide) ?_
  refine x_lconst (v := (LJ 1)) E dX11_stock_3 (by decide) ?_
  refine x_callSi (As := [.long x1.toInt64, .long (LJ 0), .long (LJ 1)]) E mlX11_78 rfl stX11_in (kX11_in l z D cA x1.toInt64 (LJ 0) (LJ 1) M _ h) rfl ⟨rfl, rfl⟩ ⟨Nat.le_of_ble_eq_true rfl, Nat.le_of_ble_eq_true rfl⟩ ⟨(Nat.le_of_ble_eq_true rfl), (Nat.le_of_ble_eq_true rfl)⟩ (Nat.le_of_ble_eq_true rfl) rfl dX11_stock_4 (x_pure (fun r1 h => ?_))
  refine x_if_ne (tgt := 14) E dX11_stock_7 (by decide) (fun c3 => ?_) (fun c3 => ?_)
  · replace h := xbr_f h c3
    clear c3
    refine x_iconst (v := (J 0)) E dX11_stock_14 (by decide) ?_
    refine x_istore_n (L' := [(2, .int (J 0)), (0, .ref a0), (1, .int x1)]) E dX11_stock_15 rfl (by decide) rfl ?_
    refine x_iconst (v := (J 0)) E dX11_stock_16 (by decide) ?_
    refine x_istore_n (L' := [(3, .int (J 0)), (2, .int (J 0)), (0, .ref a0), (1, .int x1)]) E dX11_stock_17 rfl (by decide) rfl ?_
    refine x_sub (L' := [(0, .ref a0), (1, .int x1), (2, .int (J 0)), (3, .int (J 0))]) [2, 3, 1, 0] rfl ?_
    refine lp_sound (T := fun sv => xG p l e ({ frames := 1, cells := 0, slots := 0, locals := 25 } : Room) s m args below meth c (MQ below (va_Qi (fun r M1 => M1 = M ∧ K r) (xWd z D cA) (xA z)) args s 0 0 (xA z)) 4 z D cA M (0) (0) 18 [(0, .ref a0), (1, .int x1), (2, .int sv.1), (3, .int sv.2)] []) ?_ ((J 0), (J 0)) h
    clear h
    intro kc18 hk18 sv h
    obtain ⟨x2, x3⟩ := sv
    replace h : CX11_stock_18 K M a0 x1 kc18 x2 x3 := h
    try dsimp only
    refine x_iload_n E dX11_stock_18 rfl 3 rfl ?_
    refine x_aload_n E dX11_stock_19 rfl 0 rfl ?_
    obtain ⟨hT, v4, hv, h⟩ := h
    refine x_get E flX11_222 dX11_stock_20 hT hv ?_
    clear hT hv
    refine x_icmp_ge (tgt := 43) E dX11_stock_23 (by decide) (fun c5 => ?_) (fun c5 => ?_)
    · replace h := xbr_t h c5
      clear c5
      refine x_iload_n E dX11_stock_43 rfl 1 rfl ?_
      refine x_if_ne (tgt := 58) E dX11_stock_44 (by decide) (fun c6 => ?_) (fun c6 => ?_)
      · replace h := xbr_f h c6
        clear c6
        refine x_iload_n E dX11_stock_58 rfl 2 rfl ?_
        refine x_aload_n E dX11_stock_59 rfl 0 rfl ?_
        obtain ⟨hT, v7, hv, h⟩ := h
        refine x_get E flX11_225 dX11_stock_60 hT hv ?_
        clear hT hv
        refine x_iconst (v := (J (-1))) E dX11_stock_63 (by decide) ?_
        refine x_ixor E dX11_stock_64 ?_
        refine x_iand E dX11_stock_65 ?_
        exact x_iret E hr hlk dX11_stock_66 ⟨rfl, h⟩
      · replace h := xbr_t h c6
        clear c6
        refine x_aload_n E dX11_stock_47 rfl 0 rfl ?_
        obtain ⟨hT, v8, hv, h⟩ := h
        refine x_get E flX11_225 dX11_stock_48 hT hv ?_
        clear hT hv
        refine x_iload_n E dX11_stock_51 rfl 2 rfl ?_
        refine x_iconst (v := (J (-1))) E dX11_stock_52 (by decide) ?_
        refine x_ixor E dX11_stock_53 ?_
        refine x_iand E dX11_stock_54 ?_
        refine x_goto (tgt := 66) E dX11_stock_55 (by decide) ?_
        exact x_iret E hr hlk dX11_stock_66 ⟨rfl, h⟩
    · replace h := xbr_f h c5
      clear c5
      refine x_iload_n E dX11_stock_26 rfl 2 rfl ?_
      refine x_iconst (v := (J 1)) E dX11_stock_27 (by decide) ?_
      refine x_aload_n E dX11_stock_28 rfl 0 rfl ?_
      obtain ⟨hT, q9, hv, h⟩ := h
      refine x_get E flX11_28 dX11_stock_29 hT hv ?_
      clear hT hv
      refine x_iload_n E dX11_stock_32 rfl 3 rfl ?_
      obtain ⟨hT, hi, v10, hv, h⟩ := h
      refine x_iald E dX11_stock_33 hT hi hv ?_
      clear hT hi hv
      refine x_ishl E dX11_stock_34 ?_
      refine x_ior E dX11_stock_35 ?_
      obtain ⟨y11, ey11, h⟩ := h
      refine x_top (v := .int y11) (congrArg _ ey11) ?_
      clear ey11
      refine x_istore_n (L' := [(2, .int y11), (0, .ref a0), (1, .int x1), (3, .int x3)]) E dX11_stock_36 rfl (by decide) rfl ?_
      refine x_iinc (v := (x3 + (J 1))) (L' := [(3, .int (x3 + (J 1))), (2, .int y11), (0, .ref a0), (1, .int x1)]) E dX11_stock_37 3 rfl rfl (by decide) rfl ?_
      refine x_goto (tgt := 18) E dX11_stock_40 (by decide) ?_
      refine x_sub (L' := [(0, .ref a0), (1, .int x1), (2, .int y11), (3, .int (x3 + (J 1)))]) [2, 3, 1, 0] rfl ?_
      exact hk18 (y11, (x3 + (J 1))) h
  · replace h := xbr_t h c3
    clear c3
    refine x_sipush (v := (J (-1002))) E dX11_stock_10 (by decide) ?_
    exact x_iret E hr hlk dX11_stock_13 ⟨rfl, h⟩
theorem dX11_habit_0 : decode cX11_habit 0 = .ok (.iload_n 1, 1) := by decide +kernel
theorem dX11_habit_1 : decode cX11_habit 1 = .ok (.invokestatic 211, 3) := by decide +kernel
theorem dX11_habit_4 : decode cX11_habit 4 = .ok (.ifCond .ne 7, 3) := by decide +kernel
theorem dX11_habit_7 : decode cX11_habit 7 = .ok (.sipush (-1001), 3) := by decide +kernel
theorem dX11_habit_10 : decode cX11_habit 10 = .ok (.ireturn, 1) := by decide +kernel
theorem dX11_habit_11 : decode cX11_habit 11 = .ok (.iload_n 2, 1) := by decide +kernel
theorem dX11_habit_12 : decode cX11_habit 12 = .ok (.i2l, 1) := by decide +kernel
theorem dX11_habit_13 : decode cX11_habit 13 = .ok (.lconst 0, 1) := by decide +kernel
theorem dX11_habit_14 : decode cX11_habit 14 = .ok (.ldc2_w 296, 3) := by decide +kernel
theorem dX11_habit_17 : decode cX11_habit 17 = .ok (.invokestatic 78, 3) := by decide +kernel
theorem dX11_habit_20 : decode cX11_habit 20 = .ok (.ifCond .ne 7, 3) := by decide +kernel
theorem dX11_habit_23 : decode cX11_habit 23 = .ok (.sipush (-1002), 3) := by decide +kernel
theorem dX11_habit_26 : decode cX11_habit 26 = .ok (.ireturn, 1) := by decide +kernel
theorem dX11_habit_27 : decode cX11_habit 27 = .ok (.aload_n 0, 1) := by decide +kernel
theorem dX11_habit_28 : decode cX11_habit 28 = .ok (.getfield 34, 3) := by decide +kernel
theorem dX11_habit_31 : decode cX11_habit 31 = .ok (.iload_n 1, 1) := by decide +kernel
theorem dX11_habit_32 : decode cX11_habit 32 = .ok (.iaload, 1) := by decide +kernel
theorem dX11_habit_33 : decode cX11_habit 33 = .ok (.istore_n 3, 1) := by decide +kernel
theorem dX11_habit_34 : decode cX11_habit 34 = .ok (.aload_n 0, 1) := by decide +kernel
theorem dX11_habit_35 : decode cX11_habit 35 = .ok (.getfield 34, 3) := by decide +kernel
theorem dX11_habit_38 : decode cX11_habit 38 = .ok (.iload_n 1, 1) := by decide +kernel
theorem dX11_habit_39 : decode cX11_habit 39 = .ok (.iload_n 2, 1) := by decide +kernel
theorem dX11_habit_40 : decode cX11_habit 40 = .ok (.iastore, 1) := by decide +kernel
theorem dX11_habit_41 : decode cX11_habit 41 = .ok (.iload_n 3, 1) := by decide +kernel
theorem dX11_habit_42 : decode cX11_habit 42 = .ok (.ireturn, 1) := by decide +kernel
set_option maxHeartbeats 4000000 in
set_option maxRecDepth 100000 in
theorem kX11_habit (l : Launch) (z : Nat) (D : va_G) (cA : Nat → ClassId) (a0 : Nat) (x1 : Int32) (x2 : Int32) (M : Mem) (K : Int32 → Mem → Prop) (h : PX11_habit a0 x1 x2 M K) : Met l yX11_habit (.code yX11_habit cX11_habit 4 (some .int) :: gtbl) ({ frames := 2, cells := 0, slots := 0, locals := 45 } : Room) (va_Pc [.ref a0, .int x1, .int x2] (xB z D cA M)) (va_Qi K (xWd z D cA) (xA z)) 0 0 (xA z) := by
  refine x_met (by decide +kernel) (Nat.le_of_ble_eq_true rfl) (L0 := [(0, .ref a0), (1, .int x1), (2, .int x2)]) rfl ?_
  intro p e s m args below meth c E hr hlk hnm
  have E : xE RX11 cX11_habit 4 D cA p s m args c := E
  replace h := h.2
  refine x_iload_n E dX11_habit_0 rfl 1 rfl ?_
  refine x_callSi (As := [.int x1]) E mlX11_211 rfl stX11_isReading (kX11_isReading l z D cA x1 M _ h) rfl ⟨rfl, rfl⟩ ⟨Nat.le_of_ble_eq_true rfl, Nat.le_of_ble_eq_true rfl⟩ ⟨(Nat.le_of_ble_eq_true rfl), (Nat.le_of_ble_eq_true rfl)⟩ (Nat.le_of_ble_eq_true rfl) rfl dX11_habit_1 (x_pure (fun r1 h => ?_))
  refine x_if_ne (tgt := 11) E dX11_habit_4 (by decide) (fun c3 => ?_) (fun c3 => ?_)
  · replace h := xbr_f h c3
    clear c3
    refine x_iload_n E dX11_habit_11 rfl 2 rfl ?_
    refine x_i2l E dX11_habit_12 ?_
    refine x_lconst (v := (LJ 0)) E dX11_habit_13 (by decide) ?_
    refine x_ldc2 (v := (LJ 99)) E (gw 1270 (by decide +kernel) rfl) dX11_habit_14 ?_
    refine x_callSi (As := [.long x2.toInt64, .long (LJ 0), .long (LJ 99)]) E mlX11_78 rfl stX11_in (kX11_in l z D cA x2.toInt64 (LJ 0) (LJ 99) M _ h) rfl ⟨rfl, rfl⟩ ⟨Nat.le_of_ble_eq_true rfl, Nat.le_of_ble_eq_true rfl⟩ ⟨(Nat.le_of_ble_eq_true rfl), (Nat.le_of_ble_eq_true rfl)⟩ (Nat.le_of_ble_eq_true rfl) rfl dX11_habit_17 (x_pure (fun r4 h => ?_))
    refine x_if_ne (tgt := 27) E dX11_habit_20 (by decide) (fun c6 => ?_) (fun c6 => ?_)
    · replace h := xbr_f h c6
      clear c6
      refine x_aload_n E dX11_habit_27 rfl 0 rfl ?_
      obtain ⟨hT, q7, hv, h⟩ := h
      refine x_get E flX11_34 dX11_habit_28 hT hv ?_
      clear hT hv
      refine x_iload_n E dX11_habit_31 rfl 1 rfl ?_
      obtain ⟨hT, hi, v8, hv, h⟩ := h
      refine x_iald E dX11_habit_32 hT hi hv ?_
      clear hT hi hv
      refine x_istore_n (L' := [(3, .int v8), (0, .ref a0), (1, .int x1), (2, .int x2)]) E dX11_habit_33 rfl (by decide) rfl ?_
      refine x_aload_n E dX11_habit_34 rfl 1 rfl ?_
      obtain ⟨hT, q9, hv, h⟩ := h
      refine x_get E flX11_34 dX11_habit_35 hT hv ?_
      clear hT hv
      refine x_iload_n E dX11_habit_38 rfl 2 rfl ?_
      refine x_iload_n E dX11_habit_39 rfl 3 rfl ?_
      obtain ⟨hT, hi, h⟩ := h
      refine x_iast E dX11_habit_40 hT hi (fun M10 eM10 => ?_)
      replace h := h M10 eM10
      clear hT hi eM10
      refine x_iload_n E dX11_habit_41 rfl 0 rfl ?_
      exact x_iret E hr hlk dX11_habit_42 h
    · replace h := xbr_t h c6
      clear c6
      refine x_sipush (v := (J (-1002))) E dX11_habit_23 (by decide) ?_
      exact x_iret E hr hlk dX11_habit_26 h
  · replace h := xbr_t h c3
    clear c3
    refine x_sipush (v := (J (-1001))) E dX11_habit_7 (by decide) ?_
    exact x_iret E hr hlk dX11_habit_10 h
theorem dX11_allHabits_0 : decode cX11_allHabits 0 = .ok (.iconst 0, 1) := by decide +kernel
theorem dX11_allHabits_1 : decode cX11_allHabits 1 = .ok (.istore_n 1, 1) := by decide +kernel
theorem dX11_allHabits_2 : decode cX11_allHabits 2 = .ok (.iconst 0, 1) := by decide +kernel
theorem dX11_allHabits_3 : decode cX11_allHabits 3 = .ok (.istore_n 2, 1) := by decide +kernel
theorem dX11_allHabits_4 : decode cX11_allHabits 4 = .ok (.iload_n 2, 1) := by decide +kernel
theorem dX11_allHabits_5 : decode cX11_allHabits 5 = .ok (.iconst 5, 1) := by decide +kernel
theorem dX11_allHabits_6 : decode cX11_allHabits 6 = .ok (.if_icmp .ge 18, 3) := by decide +kernel
theorem dX11_allHabits_9 : decode cX11_allHabits 9 = .ok (.iload_n 1, 1) := by decide +kernel
theorem dX11_allHabits_10 : decode cX11_allHabits 10 = .ok (.aload_n 0, 1) := by decide +kernel
theorem dX11_allHabits_11 : decode cX11_allHabits 11 = .ok (.getfield 34, 3) := by decide +kernel
theorem dX11_allHabits_14 : decode cX11_allHabits 14 = .ok (.iload_n 2, 1) := by decide +kernel
theorem dX11_allHabits_15 : decode cX11_allHabits 15 = .ok (.iaload, 1) := by decide +kernel
theorem dX11_allHabits_16 : decode cX11_allHabits 16 = .ok (.iadd, 1) := by decide +kernel
theorem dX11_allHabits_17 : decode cX11_allHabits 17 = .ok (.istore_n 1, 1) := by decide +kernel
theorem dX11_allHabits_18 : decode cX11_allHabits 18 = .ok (.iinc 2 1, 3) := by decide +kernel
theorem dX11_allHabits_21 : decode cX11_allHabits 21 = .ok (.goto (-17), 3) := by decide +kernel
theorem dX11_allHabits_24 : decode cX11_allHabits 24 = .ok (.iload_n 1, 1) := by decide +kernel
theorem dX11_allHabits_25 : decode cX11_allHabits 25 = .ok (.ireturn, 1) := by decide +kernel
set_option maxHeartbeats 4000000 in
set_option maxRecDepth 100000 in
theorem kX11_allHabits (l : Launch) (z : Nat) (D : va_G) (cA : Nat → ClassId) (a0 : Nat) (M : Mem) (K : Int32 → Prop) (h : PX11_allHabits a0 M K) : Met l yX11_allHabits (.code yX11_allHabits cX11_allHabits 3 (some .int) :: gtbl) ({ frames := 0, cells := 0, slots := 0, locals := 0 } : Room) (va_Pc [.ref a0] (xB z D cA M)) (va_Qi (fun r M1 => M1 = M ∧ K r) (xWd z D cA) (xA z)) 0 0 (xA z) := by
  refine x_met (by decide +kernel) (Nat.le_of_ble_eq_true rfl) (L0 := [(0, .ref a0)]) rfl ?_
  intro p e s m args below meth c E hr hlk hnm
  have E : xE RX11 cX11_allHabits 3 D cA p s m args c := E
  replace h := h.2
  refine x_iconst (v := (J 0)) E dX11_allHabits_0 (by decide) ?_
  refine x_istore_n (L' := [(1, .int (J 0)), (0, .ref a0)]) E dX11_allHabits_1 rfl (by decide) rfl ?_
  refine x_iconst (v := (J 0)) E dX11_allHabits_2 (by decide) ?_
  refine x_istore_n (L' := [(2, .int (J 0)), (1, .int (J 0)), (0, .ref a0)]) E dX11_allHabits_3 rfl (by decide) rfl ?_
  refine x_sub (L' := [(0, .ref a0), (1, .int (J 0)), (2, .int (J 0))]) [2, 1, 0] rfl ?_
  refine lp_sound (T := fun sv => xG p l e ({ frames := 0, cells := 0, slots := 0, locals := 0 } : Room) s m args below meth c (MQ below (va_Qi (fun r M1 => M1 = M ∧ K r) (xWd z D cA) (xA z)) args s 0 0 (xA z)) 3 z D cA M (0) (0) 4 [(0, .ref a0), (1, .int sv.1), (2, .int sv.2)] []) ?_ ((J 0), (J 0)) h
  clear h
  intro kc4 hk4 sv h
  obtain ⟨x1, x2⟩ := sv
  replace h : CX11_allHabits_4 K M a0 kc4 x1 x2 := h
  try dsimp only
  refine x_iload_n E dX11_allHabits_4 rfl 2 rfl ?_
  refine x_iconst (v := (J 5)) E dX11_allHabits_5 (by decide) ?_
  refine x_icmp_ge (tgt := 24) E dX11_allHabits_6 (by decide) (fun c1 => ?_) (fun c1 => ?_)
  · replace h := xbr_t h c1
    clear c1
    refine x_iload_n E dX11_allHabits_24 rfl 1 rfl ?_
    exact x_iret E hr hlk dX11_allHabits_25 ⟨rfl, h⟩
  · replace h := xbr_f h c1
    clear c1
    refine x_iload_n E dX11_allHabits_9 rfl 1 rfl ?_
    refine x_aload_n E dX11_allHabits_10 rfl 0 rfl ?_
    obtain ⟨hT, q2, hv, h⟩ := h
    refine x_get E flX11_34 dX11_allHabits_11 hT hv ?_
    clear hT hv
    refine x_iload_n E dX11_allHabits_14 rfl 2 rfl ?_
    obtain ⟨hT, hi, v3, hv, h⟩ := h
    refine x_iald E dX11_allHabits_15 hT hi hv ?_
    clear hT hi hv
    refine x_iadd E dX11_allHabits_16 ?_
    obtain ⟨y4, ey4, h⟩ := h
    refine x_top (v := .int y4) (congrArg _ ey4) ?_
    clear ey4
    refine x_istore_n (L' := [(1, .int y4), (0, .ref a0), (2, .int x2)]) E dX11_allHabits_17 rfl (by decide) rfl ?_
    refine x_iinc (v := (x2 + (J 1))) (L' := [(2, .int (x2 + (J 1))), (1, .int y4), (0, .ref a0)]) E dX11_allHabits_18 2 rfl rfl (by decide) rfl ?_
    refine x_goto (tgt := 4) E dX11_allHabits_21 (by decide) ?_
    refine x_sub (L' := [(0, .ref a0), (1, .int y4), (2, .int (x2 + (J 1)))]) [2, 1, 0] rfl ?_
    exact hk4 (y4, (x2 + (J 1))) h
theorem dX11_likelyOn_0 : decode cX11_likelyOn 0 = .ok (.iconst 0, 1) := by decide +kernel
theorem dX11_likelyOn_1 : decode cX11_likelyOn 1 = .ok (.istore_n 3, 1) := by decide +kernel
theorem dX11_likelyOn_2 : decode cX11_likelyOn 2 = .ok (.iconst 0, 1) := by decide +kernel
theorem dX11_likelyOn_3 : decode cX11_likelyOn 3 = .ok (.istore 4, 2) := by decide +kernel
theorem dX11_likelyOn_5 : decode cX11_likelyOn 5 = .ok (.iload 4, 2) := by decide +kernel
theorem dX11_likelyOn_7 : decode cX11_likelyOn 7 = .ok (.iconst 5, 1) := by decide +kernel
theorem dX11_likelyOn_8 : decode cX11_likelyOn 8 = .ok (.if_icmp .ge 38, 3) := by decide +kernel
theorem dX11_likelyOn_11 : decode cX11_likelyOn 11 = .ok (.iload_n 3, 1) := by decide +kernel
theorem dX11_likelyOn_12 : decode cX11_likelyOn 12 = .ok (.aload_n 0, 1) := by decide +kernel
theorem dX11_likelyOn_13 : decode cX11_likelyOn 13 = .ok (.aload_n 0, 1) := by decide +kernel
theorem dX11_likelyOn_14 : decode cX11_likelyOn 14 = .ok (.iload_n 1, 1) := by decide +kernel
theorem dX11_likelyOn_15 : decode cX11_likelyOn 15 = .ok (.iload 4, 2) := by decide +kernel
theorem dX11_likelyOn_17 : decode cX11_likelyOn 17 = .ok (.invokevirtual 249, 3) := by decide +kernel
theorem dX11_likelyOn_20 : decode cX11_likelyOn 20 = .ok (.invokevirtual 252, 3) := by decide +kernel
theorem dX11_likelyOn_23 : decode cX11_likelyOn 23 = .ok (.iload_n 2, 1) := by decide +kernel
theorem dX11_likelyOn_24 : decode cX11_likelyOn 24 = .ok (.if_icmp .ne 13, 3) := by decide +kernel
theorem dX11_likelyOn_27 : decode cX11_likelyOn 27 = .ok (.aload_n 0, 1) := by decide +kernel
theorem dX11_likelyOn_28 : decode cX11_likelyOn 28 = .ok (.getfield 34, 3) := by decide +kernel
theorem dX11_likelyOn_31 : decode cX11_likelyOn 31 = .ok (.iload 4, 2) := by decide +kernel
theorem dX11_likelyOn_33 : decode cX11_likelyOn 33 = .ok (.iaload, 1) := by decide +kernel
theorem dX11_likelyOn_34 : decode cX11_likelyOn 34 = .ok (.goto 4, 3) := by decide +kernel
theorem dX11_likelyOn_37 : decode cX11_likelyOn 37 = .ok (.iconst 0, 1) := by decide +kernel
theorem dX11_likelyOn_38 : decode cX11_likelyOn 38 = .ok (.iadd, 1) := by decide +kernel
theorem dX11_likelyOn_39 : decode cX11_likelyOn 39 = .ok (.istore_n 3, 1) := by decide +kernel
theorem dX11_likelyOn_40 : decode cX11_likelyOn 40 = .ok (.iinc 4 1, 3) := by decide +kernel
theorem dX11_likelyOn_43 : decode cX11_likelyOn 43 = .ok (.goto (-38), 3) := by decide +kernel
theorem dX11_likelyOn_46 : decode cX11_likelyOn 46 = .ok (.aload_n 0, 1) := by decide +kernel
theorem dX11_likelyOn_47 : decode cX11_likelyOn 47 = .ok (.invokevirtual 298, 3) := by decide +kernel
theorem dX11_likelyOn_50 : decode cX11_likelyOn 50 = .ok (.istore 4, 2) := by decide +kernel
theorem dX11_likelyOn_52 : decode cX11_likelyOn 52 = .ok (.iload 4, 2) := by decide +kernel
theorem dX11_likelyOn_54 : decode cX11_likelyOn 54 = .ok (.ifCond .ne 7, 3) := by decide +kernel
theorem dX11_likelyOn_57 : decode cX11_likelyOn 57 = .ok (.iconst 0, 1) := by decide +kernel
theorem dX11_likelyOn_58 : decode cX11_likelyOn 58 = .ok (.goto 14, 3) := by decide +kernel
theorem dX11_likelyOn_61 : decode cX11_likelyOn 61 = .ok (.iload_n 3, 1) := by decide +kernel
theorem dX11_likelyOn_62 : decode cX11_likelyOn 62 = .ok (.i2l, 1) := by decide +kernel
theorem dX11_likelyOn_63 : decode cX11_likelyOn 63 = .ok (.ldc2_w 301, 3) := by decide +kernel
theorem dX11_likelyOn_66 : decode cX11_likelyOn 66 = .ok (.lmul, 1) := by decide +kernel
theorem dX11_likelyOn_67 : decode cX11_likelyOn 67 = .ok (.iload 4, 2) := by decide +kernel
theorem dX11_likelyOn_69 : decode cX11_likelyOn 69 = .ok (.i2l, 1) := by decide +kernel
theorem dX11_likelyOn_70 : decode cX11_likelyOn 70 = .ok (.ldiv, 1) := by decide +kernel
theorem dX11_likelyOn_71 : decode cX11_likelyOn 71 = .ok (.l2i, 1) := by decide +kernel
theorem dX11_likelyOn_72 : decode cX11_likelyOn 72 = .ok (.ireturn, 1) := by decide +kernel
set_option maxHeartbeats 4000000 in
set_option maxRecDepth 100000 in
theorem kX11_likelyOn (l : Launch) (z : Nat) (D : va_G) (cA : Nat → ClassId) (a0 : Nat) (x1 : Int32) (x2 : Int32) (M : Mem) (K : Int32 → Prop) (h : PX11_likelyOn a0 x1 x2 M K) : Met l yX11_likelyOn (.code yX11_likelyOn cX11_likelyOn 5 (some .int) :: gtbl) ({ frames := 4, cells := 0, slots := 0, locals := 96 } : Room) (va_Pc [.ref a0, .int x1, .int x2] (xB z D cA M)) (va_Qi (fun r M1 => M1 = M ∧ K r) (xWd z D cA) (xA z)) 0 0 (xA z) := by
  refine x_met (by decide +kernel) (Nat.le_of_ble_eq_true rfl) (L0 := [(0, .ref a0), (1, .int x1), (2, .int x2)]) rfl ?_
  intro p e s m args below meth c E hr hlk hnm
  have E : xE RX11 cX11_likelyOn 5 D cA p s m args c := E
  replace h := h.2
  refine x_iconst (v := (J 0)) E dX11_likelyOn_0 (by decide) ?_
  refine x_istore_n (L' := [(3, .int (J 0)), (0, .ref a0), (1, .int x1), (2, .int x2)]) E dX11_likelyOn_1 rfl (by decide) rfl ?_
  refine x_iconst (v := (J 0)) E dX11_likelyOn_2 (by decide) ?_
  refine x_istore (L' := [(4, .int (J 0)), (3, .int (J 0)), (0, .ref a0), (1, .int x1), (2, .int x2)]) E dX11_likelyOn_3 (by decide) rfl ?_
  refine x_sub (L' := [(0, .ref a0), (1, .int x1), (2, .int x2), (3, .int (J 0)), (4, .int (J 0))]) [2, 3, 4, 1, 0] rfl ?_
  refine lp_sound (T := fun sv => xG p l e ({ frames := 4, cells := 0, slots := 0, locals := 96 } : Room) s m args below meth c (MQ below (va_Qi (fun r M1 => M1 = M ∧ K r) (xWd z D cA) (xA z)) args s 0 0 (xA z)) 5 z D cA M (0) (0) 5 [(0, .ref a0), (1, .int x1), (2, .int x2), (3, .int sv.1), (4, .int sv.2)] []) ?_ ((J 0), (J 0)) h
  clear h
  intro kc5 hk5 sv h
  obtain ⟨x3, x4⟩ := sv
  replace h : CX11_likelyOn_5 K M a0 x1 x2 kc5 x3 x4 := h
  try dsimp only
  refine x_iload E dX11_likelyOn_5 4 rfl ?_
  refine x_iconst (v := (J 5)) E dX11_likelyOn_7 (by decide) ?_
  refine x_icmp_ge (tgt := 46) E dX11_likelyOn_8 (by decide) (fun c1 => ?_) (fun c1 => ?_)
  · replace h := xbr_t h c1
    clear c1
    refine x_aload_n E dX11_likelyOn_46 rfl 0 rfl ?_
    refine x_callVi (T := TX11) (N := 32) (t := 12) (As := []) E mlX11_298 inX11_allHabits seX11_allHabits rfl ⟨by decide, by decide⟩ (tX11_allHabits h) (kX11_allHabits l z D cA a0 M _ h) rfl ⟨rfl, rfl⟩ ⟨Nat.le_of_ble_eq_true rfl, Nat.le_of_ble_eq_true rfl⟩ ⟨(Nat.le_of_ble_eq_true rfl), (Nat.le_of_ble_eq_true rfl)⟩ (Nat.le_of_ble_eq_true rfl) rfl dX11_likelyOn_47 (x_pure (fun r2 h => ?_))
    refine x_istore (L' := [(4, .int r2), (0, .ref a0), (1, .int x1), (2, .int x2), (3, .int x3)]) E dX11_likelyOn_50 (by decide) rfl ?_
    refine x_iload E dX11_likelyOn_52 0 rfl ?_
    refine x_if_ne (tgt := 61) E dX11_likelyOn_54 (by decide) (fun c4 => ?_) (fun c4 => ?_)
    · replace h := xbr_f h c4
      clear c4
      refine x_iload_n E dX11_likelyOn_61 rfl 4 rfl ?_
      refine x_i2l E dX11_likelyOn_62 ?_
      refine x_ldc2 (v := (LJ 1000000)) E (gw 1283 (by decide +kernel) rfl) dX11_likelyOn_63 ?_
      refine x_lmul E dX11_likelyOn_66 ?_
      refine x_iload E dX11_likelyOn_67 0 rfl ?_
      refine x_i2l E dX11_likelyOn_69 ?_
      obtain ⟨h0, h⟩ := h
      refine x_ldiv E dX11_likelyOn_70 h0 ?_
      clear h0
      refine x_l2i E dX11_likelyOn_71 ?_
      exact x_iret E hr hlk dX11_likelyOn_72 ⟨rfl, h⟩
    · replace h := xbr_t h c4
      clear c4
      refine x_iconst (v := (J 0)) E dX11_likelyOn_57 (by decide) ?_
      refine x_goto (tgt := 72) E dX11_likelyOn_58 (by decide) ?_
      exact x_iret E hr hlk dX11_likelyOn_72 ⟨rfl, h⟩
  · replace h := xbr_f h c1
    clear c1
    refine x_iload_n E dX11_likelyOn_11 rfl 3 rfl ?_
    refine x_aload_n E dX11_likelyOn_12 rfl 0 rfl ?_
    refine x_aload_n E dX11_likelyOn_13 rfl 0 rfl ?_
    refine x_iload_n E dX11_likelyOn_14 rfl 1 rfl ?_
    refine x_iload E dX11_likelyOn_15 4 rfl ?_
    refine x_callVi (T := TX11) (N := 32) (t := 12) (As := [.int x1, .int x4]) E mlX11_249 inX11_placeBy seX11_placeBy rfl ⟨by decide, by decide⟩ (tX11_placeBy h) (kX11_placeBy l z D cA a0 x1 x4 M _ h) rfl ⟨rfl, rfl⟩ ⟨Nat.le_of_ble_eq_true rfl, Nat.le_of_ble_eq_true rfl⟩ ⟨(Nat.le_of_ble_eq_true rfl), (Nat.le_of_ble_eq_true rfl)⟩ (Nat.le_of_ble_eq_true rfl) rfl dX11_likelyOn_17 (x_pure (fun r5 h => ?_))
    refine x_callVi (T := TX11) (N := 32) (t := 12) (As := [.int r5]) E mlX11_252 inX11_shelfBy seX11_shelfBy rfl ⟨by decide, by decide⟩ (tX11_shelfBy h) (kX11_shelfBy l z D cA a0 r5 M _ h) rfl ⟨rfl, rfl⟩ ⟨Nat.le_of_ble_eq_true rfl, Nat.le_of_ble_eq_true rfl⟩ ⟨(Nat.le_of_ble_eq_true rfl), (Nat.le_of_ble_eq_true rfl)⟩ (Nat.le_of_ble_eq_true rfl) rfl dX11_likelyOn_20 (x_pure (fun r7 h => ?_))
    refine x_iload_n E dX11_likelyOn_23 rfl 2 rfl ?_
    refine x_icmp_ne (tgt := 37) E dX11_likelyOn_24 (by decide) (fun c9 => ?_) (fun c9 => ?_)
    · replace h := xbr_f h c9
      clear c9
      refine x_iconst (v := (J 0)) E dX11_likelyOn_37 (by decide) ?_
      refine x_iadd E dX11_likelyOn_38 ?_
      obtain ⟨y10, ey10, h⟩ := h
      refine x_top (v := .int y10) (congrArg _ ey10) ?_
      clear ey10
      refine x_istore_n (L' := [(3, .int y10), (0, .ref a0), (1, .int x1), (2, .int x2), (4, .int x4)]) E dX11_likelyOn_39 rfl (by decide) rfl ?_
      refine x_iinc (v := (x4 + (J 1))) (L' := [(4, .int (x4 + (J 1))), (3, .int y10), (0, .ref a0), (1, .int x1), (2, .int x2)]) E dX11_likelyOn_40 4 rfl rfl (by decide) rfl ?_
      refine x_goto (tgt := 5) E dX11_likelyOn_43 (by decide) ?_
      refine x_sub (L' := [(0, .ref a0), (1, .int x1), (2, .int x2), (3, .int y10), (4, .int (x4 + (J 1)))]) [2, 3, 4, 1, 0] rfl ?_
      exact hk5 (y10, (x4 + (J 1))) h
    · replace h := xbr_t h c9
      clear c9
      refine x_aload_n E dX11_likelyOn_27 rfl 0 rfl ?_
      obtain ⟨hT, q11, hv, h⟩ := h
      refine x_get E flX11_34 dX11_likelyOn_28 hT hv ?_
      clear hT hv
      refine x_iload E dX11_likelyOn_31 4 rfl ?_
      obtain ⟨hT, hi, v12, hv, h⟩ := h
      refine x_iald E dX11_likelyOn_33 hT hi hv ?_
      clear hT hi hv
      refine x_goto (tgt := 38) E dX11_likelyOn_34 (by decide) ?_
      refine x_iadd E dX11_likelyOn_38 ?_
      obtain ⟨y13, ey13, h⟩ := h
      refine x_top (v := .int y13) (congrArg _ ey13) ?_
      clear ey13
      refine x_istore_n (L' := [(3, .int y13), (0, .ref a0), (1, .int x1), (2, .int x2), (4, .int x4)]) E dX11_likelyOn_39 rfl (by decide) rfl ?_
      refine x_iinc (v := (x4 + (J 1))) (L' := [(4, .int (x4 + (J 1))), (3, .int y13), (0, .ref a0), (1, .int x1), (2, .int x2)]) E dX11_likelyOn_40 4 rfl rfl (by decide) rfl ?_
      refine x_goto (tgt := 5) E dX11_likelyOn_43 (by decide) ?_
      refine x_sub (L' := [(0, .ref a0), (1, .int x1), (2, .int x2), (3, .int y13), (4, .int (x4 + (J 1)))]) [2, 3, 4, 1, 0] rfl ?_
      exact hk5 (y13, (x4 + (J 1))) h
theorem dX11_likely_0 : decode cX11_likely 0 = .ok (.aload_n 0, 1) := by decide +kernel
theorem dX11_likely_1 : decode cX11_likely 1 = .ok (.iload_n 1, 1) := by decide +kernel
theorem dX11_likely_2 : decode cX11_likely 2 = .ok (.invokevirtual 163, 3) := by decide +kernel
theorem dX11_likely_5 : decode cX11_likely 5 = .ok (.ifCond .eq 10, 3) := by decide +kernel
theorem dX11_likely_8 : decode cX11_likely 8 = .ok (.iload_n 2, 1) := by decide +kernel
theorem dX11_likely_9 : decode cX11_likely 9 = .ok (.invokestatic 234, 3) := by decide +kernel
theorem dX11_likely_12 : decode cX11_likely 12 = .ok (.ifCond .ne 7, 3) := by decide +kernel
theorem dX11_likely_15 : decode cX11_likely 15 = .ok (.sipush (-1001), 3) := by decide +kernel
theorem dX11_likely_18 : decode cX11_likely 18 = .ok (.ireturn, 1) := by decide +kernel
theorem dX11_likely_19 : decode cX11_likely 19 = .ok (.aload_n 0, 1) := by decide +kernel
theorem dX11_likely_20 : decode cX11_likely 20 = .ok (.iload_n 1, 1) := by decide +kernel
theorem dX11_likely_21 : decode cX11_likely 21 = .ok (.invokevirtual 167, 3) := by decide +kernel
theorem dX11_likely_24 : decode cX11_likely 24 = .ok (.ifCond .lt 9, 3) := by decide +kernel
theorem dX11_likely_27 : decode cX11_likely 27 = .ok (.sipush (-1003), 3) := by decide +kernel
theorem dX11_likely_30 : decode cX11_likely 30 = .ok (.goto 9, 3) := by decide +kernel
theorem dX11_likely_33 : decode cX11_likely 33 = .ok (.aload_n 0, 1) := by decide +kernel
theorem dX11_likely_34 : decode cX11_likely 34 = .ok (.iload_n 1, 1) := by decide +kernel
theorem dX11_likely_35 : decode cX11_likely 35 = .ok (.iload_n 2, 1) := by decide +kernel
theorem dX11_likely_36 : decode cX11_likely 36 = .ok (.invokevirtual 303, 3) := by decide +kernel
theorem dX11_likely_39 : decode cX11_likely 39 = .ok (.ireturn, 1) := by decide +kernel
set_option maxHeartbeats 4000000 in
set_option maxRecDepth 100000 in
theorem kX11_likely (l : Launch) (z : Nat) (D : va_G) (cA : Nat → ClassId) (a0 : Nat) (x1 : Int32) (x2 : Int32) (M : Mem) (K : Int32 → Prop) (h : PX11_likely a0 x1 x2 M K) : Met l yX11_likely (.code yX11_likely cX11_likely 3 (some .int) :: gtbl) ({ frames := 5, cells := 0, slots := 0, locals := 120 } : Room) (va_Pc [.ref a0, .int x1, .int x2] (xB z D cA M)) (va_Qi (fun r M1 => M1 = M ∧ K r) (xWd z D cA) (xA z)) 0 0 (xA z) := by
  refine x_met (by decide +kernel) (Nat.le_of_ble_eq_true rfl) (L0 := [(0, .ref a0), (1, .int x1), (2, .int x2)]) rfl ?_
  intro p e s m args below meth c E hr hlk hnm
  have E : xE RX11 cX11_likely 3 D cA p s m args c := E
  replace h := h.2
  refine x_aload_n E dX11_likely_0 rfl 0 rfl ?_
  refine x_iload_n E dX11_likely_1 rfl 1 rfl ?_
  refine x_callVi (T := TX11) (N := 32) (t := 12) (As := [.int x1]) E mlX11_163 inX11_isBook seX11_isBook rfl ⟨by decide, by decide⟩ (tX11_isBook h) (kX11_isBook l z D cA a0 x1 M _ h) rfl ⟨rfl, rfl⟩ ⟨Nat.le_of_ble_eq_true rfl, Nat.le_of_ble_eq_true rfl⟩ ⟨(Nat.le_of_ble_eq_true rfl), (Nat.le_of_ble_eq_true rfl)⟩ (Nat.le_of_ble_eq_true rfl) rfl dX11_likely_2 (x_pure (fun r1 h => ?_))
  refine x_if_eq (tgt := 15) E dX11_likely_5 (by decide) (fun c3 => ?_) (fun c3 => ?_)
  · replace h := xbr_t h c3
    clear c3
    refine x_sipush (v := (J (-1001))) E dX11_likely_15 (by decide) ?_
    exact x_iret E hr hlk dX11_likely_18 ⟨rfl, h⟩
  · replace h := xbr_f h c3
    clear c3
    refine x_iload_n E dX11_likely_8 rfl 2 rfl ?_
    refine x_callSi (As := [.int x2]) E mlX11_234 rfl stX11_isShelf (kX11_isShelf l z D cA x2 M _ h) rfl ⟨rfl, rfl⟩ ⟨Nat.le_of_ble_eq_true rfl, Nat.le_of_ble_eq_true rfl⟩ ⟨(Nat.le_of_ble_eq_true rfl), (Nat.le_of_ble_eq_true rfl)⟩ (Nat.le_of_ble_eq_true rfl) rfl dX11_likely_9 (x_pure (fun r4 h => ?_))
    refine x_if_ne (tgt := 19) E dX11_likely_12 (by decide) (fun c6 => ?_) (fun c6 => ?_)
    · replace h := xbr_f h c6
      clear c6
      refine x_aload_n E dX11_likely_19 rfl 0 rfl ?_
      refine x_iload_n E dX11_likely_20 rfl 1 rfl ?_
      refine x_callVi (T := TX11) (N := 32) (t := 12) (As := [.int x1]) E mlX11_167 inX11_placeOf seX11_placeOf rfl ⟨by decide, by decide⟩ (tX11_placeOf h) (kX11_placeOf l z D cA a0 x1 M _ h) rfl ⟨rfl, rfl⟩ ⟨Nat.le_of_ble_eq_true rfl, Nat.le_of_ble_eq_true rfl⟩ ⟨(Nat.le_of_ble_eq_true rfl), (Nat.le_of_ble_eq_true rfl)⟩ (Nat.le_of_ble_eq_true rfl) rfl dX11_likely_21 (x_pure (fun r7 h => ?_))
      refine x_if_lt (tgt := 33) E dX11_likely_24 (by decide) (fun c9 => ?_) (fun c9 => ?_)
      · replace h := xbr_t h c9
        clear c9
        refine x_aload_n E dX11_likely_33 rfl 0 rfl ?_
        refine x_iload_n E dX11_likely_34 rfl 1 rfl ?_
        refine x_iload_n E dX11_likely_35 rfl 2 rfl ?_
        refine x_callVi (T := TX11) (N := 32) (t := 12) (As := [.int x1, .int x2]) E mlX11_303 inX11_likelyOn seX11_likelyOn rfl ⟨by decide, by decide⟩ (tX11_likelyOn h) (kX11_likelyOn l z D cA a0 x1 x2 M _ h) rfl ⟨rfl, rfl⟩ ⟨Nat.le_of_ble_eq_true rfl, Nat.le_of_ble_eq_true rfl⟩ ⟨(Nat.le_of_ble_eq_true rfl), (Nat.le_of_ble_eq_true rfl)⟩ (Nat.le_of_ble_eq_true rfl) rfl dX11_likely_36 (x_pure (fun r10 h => ?_))
        exact x_iret E hr hlk dX11_likely_39 ⟨rfl, h⟩
      · replace h := xbr_f h c9
        clear c9
        refine x_sipush (v := (J (-1003))) E dX11_likely_27 (by decide) ?_
        refine x_goto (tgt := 39) E dX11_likely_30 (by decide) ?_
        exact x_iret E hr hlk dX11_likely_39 ⟨rfl, h⟩
    · replace h := xbr_t h c6
      clear c6
      refine x_sipush (v := (J (-1001))) E dX11_likely_15 (by decide) ?_
      exact x_iret E hr hlk dX11_likely_18 ⟨rfl, h⟩
theorem dX11_nextRow_0 : decode cX11_nextRow 0 = .ok (.aload_n 0, 1) := by decide +kernel
theorem dX11_nextRow_1 : decode cX11_nextRow 1 = .ok (.getfield 306, 3) := by decide +kernel
theorem dX11_nextRow_4 : decode cX11_nextRow 4 = .ok (.iconst 2, 1) := by decide +kernel
theorem dX11_nextRow_5 : decode cX11_nextRow 5 = .ok (.isub, 1) := by decide +kernel
theorem dX11_nextRow_6 : decode cX11_nextRow 6 = .ok (.istore_n 1, 1) := by decide +kernel
theorem dX11_nextRow_7 : decode cX11_nextRow 7 = .ok (.iload_n 1, 1) := by decide +kernel
theorem dX11_nextRow_8 : decode cX11_nextRow 8 = .ok (.ifCond .lt 26, 3) := by decide +kernel
theorem dX11_nextRow_11 : decode cX11_nextRow 11 = .ok (.aload_n 0, 1) := by decide +kernel
theorem dX11_nextRow_12 : decode cX11_nextRow 12 = .ok (.getfield 59, 3) := by decide +kernel
theorem dX11_nextRow_15 : decode cX11_nextRow 15 = .ok (.iload_n 1, 1) := by decide +kernel
theorem dX11_nextRow_16 : decode cX11_nextRow 16 = .ok (.iaload, 1) := by decide +kernel
theorem dX11_nextRow_17 : decode cX11_nextRow 17 = .ok (.aload_n 0, 1) := by decide +kernel
theorem dX11_nextRow_18 : decode cX11_nextRow 18 = .ok (.getfield 59, 3) := by decide +kernel
theorem dX11_nextRow_21 : decode cX11_nextRow 21 = .ok (.iload_n 1, 1) := by decide +kernel
theorem dX11_nextRow_22 : decode cX11_nextRow 22 = .ok (.iconst 1, 1) := by decide +kernel
theorem dX11_nextRow_23 : decode cX11_nextRow 23 = .ok (.iadd, 1) := by decide +kernel
theorem dX11_nextRow_24 : decode cX11_nextRow 24 = .ok (.iaload, 1) := by decide +kernel
theorem dX11_nextRow_25 : decode cX11_nextRow 25 = .ok (.if_icmp .le 9, 3) := by decide +kernel
theorem dX11_nextRow_28 : decode cX11_nextRow 28 = .ok (.iinc 1 (-1), 3) := by decide +kernel
theorem dX11_nextRow_31 : decode cX11_nextRow 31 = .ok (.goto (-24), 3) := by decide +kernel
theorem dX11_nextRow_34 : decode cX11_nextRow 34 = .ok (.iload_n 1, 1) := by decide +kernel
theorem dX11_nextRow_35 : decode cX11_nextRow 35 = .ok (.ifCond .ge 5, 3) := by decide +kernel
theorem dX11_nextRow_38 : decode cX11_nextRow 38 = .ok (.iconst 0, 1) := by decide +kernel
theorem dX11_nextRow_39 : decode cX11_nextRow 39 = .ok (.ireturn, 1) := by decide +kernel
theorem dX11_nextRow_40 : decode cX11_nextRow 40 = .ok (.aload_n 0, 1) := by decide +kernel
theorem dX11_nextRow_41 : decode cX11_nextRow 41 = .ok (.getfield 306, 3) := by decide +kernel
theorem dX11_nextRow_44 : decode cX11_nextRow 44 = .ok (.iconst 1, 1) := by decide +kernel
theorem dX11_nextRow_45 : decode cX11_nextRow 45 = .ok (.isub, 1) := by decide +kernel
theorem dX11_nextRow_46 : decode cX11_nextRow 46 = .ok (.istore_n 2, 1) := by decide +kernel
theorem dX11_nextRow_47 : decode cX11_nextRow 47 = .ok (.aload_n 0, 1) := by decide +kernel
theorem dX11_nextRow_48 : decode cX11_nextRow 48 = .ok (.getfield 59, 3) := by decide +kernel
theorem dX11_nextRow_51 : decode cX11_nextRow 51 = .ok (.iload_n 2, 1) := by decide +kernel
theorem dX11_nextRow_52 : decode cX11_nextRow 52 = .ok (.iaload, 1) := by decide +kernel
theorem dX11_nextRow_53 : decode cX11_nextRow 53 = .ok (.aload_n 0, 1) := by decide +kernel
theorem dX11_nextRow_54 : decode cX11_nextRow 54 = .ok (.getfield 59, 3) := by decide +kernel
theorem dX11_nextRow_57 : decode cX11_nextRow 57 = .ok (.iload_n 1, 1) := by decide +kernel
theorem dX11_nextRow_58 : decode cX11_nextRow 58 = .ok (.iaload, 1) := by decide +kernel
theorem dX11_nextRow_59 : decode cX11_nextRow 59 = .ok (.if_icmp .ge 9, 3) := by decide +kernel
theorem dX11_nextRow_62 : decode cX11_nextRow 62 = .ok (.iinc 2 (-1), 3) := by decide +kernel
theorem dX11_nextRow_65 : decode cX11_nextRow 65 = .ok (.goto (-18), 3) := by decide +kernel
theorem dX11_nextRow_68 : decode cX11_nextRow 68 = .ok (.aload_n 0, 1) := by decide +kernel
theorem dX11_nextRow_69 : decode cX11_nextRow 69 = .ok (.getfield 59, 3) := by decide +kernel
theorem dX11_nextRow_72 : decode cX11_nextRow 72 = .ok (.iload_n 1, 1) := by decide +kernel
theorem dX11_nextRow_73 : decode cX11_nextRow 73 = .ok (.iaload, 1) := by decide +kernel
theorem dX11_nextRow_74 : decode cX11_nextRow 74 = .ok (.istore_n 3, 1) := by decide +kernel
theorem dX11_nextRow_75 : decode cX11_nextRow 75 = .ok (.aload_n 0, 1) := by decide +kernel
theorem dX11_nextRow_76 : decode cX11_nextRow 76 = .ok (.getfield 59, 3) := by decide +kernel
theorem dX11_nextRow_79 : decode cX11_nextRow 79 = .ok (.iload_n 1, 1) := by decide +kernel
theorem dX11_nextRow_80 : decode cX11_nextRow 80 = .ok (.aload_n 0, 1) := by decide +kernel
theorem dX11_nextRow_81 : decode cX11_nextRow 81 = .ok (.getfield 59, 3) := by decide +kernel
theorem dX11_nextRow_84 : decode cX11_nextRow 84 = .ok (.iload_n 2, 1) := by decide +kernel
theorem dX11_nextRow_85 : decode cX11_nextRow 85 = .ok (.iaload, 1) := by decide +kernel
theorem dX11_nextRow_86 : decode cX11_nextRow 86 = .ok (.iastore, 1) := by decide +kernel
theorem dX11_nextRow_87 : decode cX11_nextRow 87 = .ok (.aload_n 0, 1) := by decide +kernel
theorem dX11_nextRow_88 : decode cX11_nextRow 88 = .ok (.getfield 59, 3) := by decide +kernel
theorem dX11_nextRow_91 : decode cX11_nextRow 91 = .ok (.iload_n 2, 1) := by decide +kernel
theorem dX11_nextRow_92 : decode cX11_nextRow 92 = .ok (.iload_n 3, 1) := by decide +kernel
theorem dX11_nextRow_93 : decode cX11_nextRow 93 = .ok (.iastore, 1) := by decide +kernel
theorem dX11_nextRow_94 : decode cX11_nextRow 94 = .ok (.iload_n 1, 1) := by decide +kernel
theorem dX11_nextRow_95 : decode cX11_nextRow 95 = .ok (.iconst 1, 1) := by decide +kernel
theorem dX11_nextRow_96 : decode cX11_nextRow 96 = .ok (.iadd, 1) := by decide +kernel
theorem dX11_nextRow_97 : decode cX11_nextRow 97 = .ok (.istore 4, 2) := by decide +kernel
theorem dX11_nextRow_99 : decode cX11_nextRow 99 = .ok (.aload_n 0, 1) := by decide +kernel
theorem dX11_nextRow_100 : decode cX11_nextRow 100 = .ok (.getfield 306, 3) := by decide +kernel
theorem dX11_nextRow_103 : decode cX11_nextRow 103 = .ok (.iconst 1, 1) := by decide +kernel
theorem dX11_nextRow_104 : decode cX11_nextRow 104 = .ok (.isub, 1) := by decide +kernel
theorem dX11_nextRow_105 : decode cX11_nextRow 105 = .ok (.istore 5, 2) := by decide +kernel
theorem dX11_nextRow_107 : decode cX11_nextRow 107 = .ok (.iload 4, 2) := by decide +kernel
theorem dX11_nextRow_109 : decode cX11_nextRow 109 = .ok (.iload 5, 2) := by decide +kernel
theorem dX11_nextRow_111 : decode cX11_nextRow 111 = .ok (.if_icmp .ge 44, 3) := by decide +kernel
theorem dX11_nextRow_114 : decode cX11_nextRow 114 = .ok (.aload_n 0, 1) := by decide +kernel
theorem dX11_nextRow_115 : decode cX11_nextRow 115 = .ok (.getfield 59, 3) := by decide +kernel
theorem dX11_nextRow_118 : decode cX11_nextRow 118 = .ok (.iload 4, 2) := by decide +kernel
theorem dX11_nextRow_120 : decode cX11_nextRow 120 = .ok (.iaload, 1) := by decide +kernel
theorem dX11_nextRow_121 : decode cX11_nextRow 121 = .ok (.istore 6, 2) := by decide +kernel
theorem dX11_nextRow_123 : decode cX11_nextRow 123 = .ok (.aload_n 0, 1) := by decide +kernel
theorem dX11_nextRow_124 : decode cX11_nextRow 124 = .ok (.getfield 59, 3) := by decide +kernel
theorem dX11_nextRow_127 : decode cX11_nextRow 127 = .ok (.iload 4, 2) := by decide +kernel
theorem dX11_nextRow_129 : decode cX11_nextRow 129 = .ok (.aload_n 0, 1) := by decide +kernel
theorem dX11_nextRow_130 : decode cX11_nextRow 130 = .ok (.getfield 59, 3) := by decide +kernel
theorem dX11_nextRow_133 : decode cX11_nextRow 133 = .ok (.iload 5, 2) := by decide +kernel
theorem dX11_nextRow_135 : decode cX11_nextRow 135 = .ok (.iaload, 1) := by decide +kernel
theorem dX11_nextRow_136 : decode cX11_nextRow 136 = .ok (.iastore, 1) := by decide +kernel
theorem dX11_nextRow_137 : decode cX11_nextRow 137 = .ok (.aload_n 0, 1) := by decide +kernel
theorem dX11_nextRow_138 : decode cX11_nextRow 138 = .ok (.getfield 59, 3) := by decide +kernel
theorem dX11_nextRow_141 : decode cX11_nextRow 141 = .ok (.iload 5, 2) := by decide +kernel
theorem dX11_nextRow_143 : decode cX11_nextRow 143 = .ok (.iload 6, 2) := by decide +kernel
theorem dX11_nextRow_145 : decode cX11_nextRow 145 = .ok (.iastore, 1) := by decide +kernel
theorem dX11_nextRow_146 : decode cX11_nextRow 146 = .ok (.iinc 4 1, 3) := by decide +kernel
theorem dX11_nextRow_149 : decode cX11_nextRow 149 = .ok (.iinc 5 (-1), 3) := by decide +kernel
theorem dX11_nextRow_152 : decode cX11_nextRow 152 = .ok (.goto (-45), 3) := by decide +kernel
theorem dX11_nextRow_155 : decode cX11_nextRow 155 = .ok (.iconst 1, 1) := by decide +kernel
theorem dX11_nextRow_156 : decode cX11_nextRow 156 = .ok (.ireturn, 1) := by decide +kernel
set_option maxHeartbeats 4000000 in
set_option maxRecDepth 100000 in
theorem kX11_nextRow (l : Launch) (z : Nat) (D : va_G) (cA : Nat → ClassId) (a0 : Nat) (M : Mem) (K : Int32 → Mem → Prop) (h : PX11_nextRow a0 M K) : Met l yX11_nextRow (.code yX11_nextRow cX11_nextRow 7 (some .boolean) :: gtbl) ({ frames := 0, cells := 0, slots := 0, locals := 0 } : Room) (va_Pc [.ref a0] (xB z D cA M)) (va_Qi K (xWd z D cA) (xA z)) 0 0 (xA z) := by
  refine x_met (by decide +kernel) (Nat.le_of_ble_eq_true rfl) (L0 := [(0, .ref a0)]) rfl ?_
  intro p e s m args below meth c E hr hlk hnm
  have E : xE RX11 cX11_nextRow 7 D cA p s m args c := E
  have hJ34 : ∀ (M : Mem) (j0 : Nat) (j1 : Int32), JX11_nextRow_34 K M j0 j1 → xG p l e ({ frames := 0, cells := 0, slots := 0, locals := 0 } : Room) s m args below meth c (MQ below (va_Qi K (xWd z D cA) (xA z)) args s 0 0 (xA z)) 7 z D cA M (0) (0) 34 [(0, .ref j0), (1, .int j1)] [] := by
    intro M j0 j1 h
    refine x_iload_n E dX11_nextRow_34 rfl 1 rfl ?_
    refine x_if_ge (tgt := 40) E dX11_nextRow_35 (by decide) (fun c4 => ?_) (fun c4 => ?_)
    · replace h := xbr_t h c4
      clear c4
      refine x_aload_n E dX11_nextRow_40 rfl 0 rfl ?_
      obtain ⟨hT, v5, hv, h⟩ := h
      refine x_get E flX11_306 dX11_nextRow_41 hT hv ?_
      clear hT hv
      refine x_iconst (v := (J 1)) E dX11_nextRow_44 (by decide) ?_
      refine x_isub E dX11_nextRow_45 ?_
      obtain ⟨y6, ey6, h⟩ := h
      refine x_top (v := .int y6) (congrArg _ ey6) ?_
      clear ey6
      refine x_istore_n (L' := [(2, .int y6), (0, .ref j0), (1, .int j1)]) E dX11_nextRow_46 rfl (by decide) rfl ?_
      refine x_sub (L' := [(0, .ref j0), (1, .int j1), (2, .int y6)]) [1, 2, 0] rfl ?_
      refine lp_sound (T := fun sv => xG p l e ({ frames := 0, cells := 0, slots := 0, locals := 0 } : Room) s m args below meth c (MQ below (va_Qi K (xWd z D cA) (xA z)) args s 0 0 (xA z)) 7 z D cA M (0) (0) 47 [(0, .ref j0), (1, .int j1), (2, .int sv)] []) ?_ y6 h
      clear h
      intro kc47 hk47 sv h
      obtain ⟨x2, esv⟩ : ∃ y, y = sv := ⟨_, rfl⟩
      subst esv
      replace h : CX11_nextRow_47 K M j0 j1 kc47 x2 := h
      try dsimp only
      refine x_aload_n E dX11_nextRow_47 rfl 0 rfl ?_
      obtain ⟨hT, q7, hv, h⟩ := h
      refine x_get E flX11_59 dX11_nextRow_48 hT hv ?_
      clear hT hv
      refine x_iload_n E dX11_nextRow_51 rfl 2 rfl ?_
      obtain ⟨hT, hi, v8, hv, h⟩ := h
      refine x_iald E dX11_nextRow_52 hT hi hv ?_
      clear hT hi hv
      refine x_aload_n E dX11_nextRow_53 rfl 0 rfl ?_
      obtain ⟨hT, q9, hv, h⟩ := h
      refine x_get E flX11_59 dX11_nextRow_54 hT hv ?_
      clear hT hv
      refine x_iload_n E dX11_nextRow_57 rfl 1 rfl ?_
      obtain ⟨hT, hi, v10, hv, h⟩ := h
      refine x_iald E dX11_nextRow_58 hT hi hv ?_
      clear hT hi hv
      refine x_icmp_ge (tgt := 68) E dX11_nextRow_59 (by decide) (fun c11 => ?_) (fun c11 => ?_)
      · replace h := xbr_t h c11
        clear c11
        refine x_aload_n E dX11_nextRow_68 rfl 0 rfl ?_
        obtain ⟨hT, q12, hv, h⟩ := h
        refine x_get E flX11_59 dX11_nextRow_69 hT hv ?_
        clear hT hv
        refine x_iload_n E dX11_nextRow_72 rfl 1 rfl ?_
        obtain ⟨hT, hi, v13, hv, h⟩ := h
        refine x_iald E dX11_nextRow_73 hT hi hv ?_
        clear hT hi hv
        refine x_istore_n (L' := [(3, .int v13), (0, .ref j0), (1, .int j1), (2, .int x2)]) E dX11_nextRow_74 rfl (by decide) rfl ?_
        refine x_aload_n E dX11_nextRow_75 rfl 1 rfl ?_
        obtain ⟨hT, q14, hv, h⟩ := h
        refine x_get E flX11_59 dX11_nextRow_76 hT hv ?_
        clear hT hv
        refine x_iload_n E dX11_nextRow_79 rfl 2 rfl ?_
        refine x_aload_n E dX11_nextRow_80 rfl 1 rfl ?_
        obtain ⟨hT, q15, hv, h⟩ := h
        refine x_get E flX11_59 dX11_nextRow_81 hT hv ?_
        clear hT hv
        refine x_iload_n E dX11_nextRow_84 rfl 3 rfl ?_
        obtain ⟨hT, hi, v16, hv, h⟩ := h
        refine x_iald E dX11_nextRow_85 hT hi hv ?_
        clear hT hi hv
        obtain ⟨hT, hi, h⟩ := h
        refine x_iast E dX11_nextRow_86 hT hi (fun M17 eM17 => ?_)
        replace h := h M17 eM17
        clear hT hi eM17
        refine x_aload_n E dX11_nextRow_87 rfl 1 rfl ?_
        obtain ⟨hT, q18, hv, h⟩ := h
        refine x_get E flX11_59 dX11_nextRow_88 hT hv ?_
        clear hT hv
        refine x_iload_n E dX11_nextRow_91 rfl 3 rfl ?_
        refine x_iload_n E dX11_nextRow_92 rfl 0 rfl ?_
        obtain ⟨hT, hi, h⟩ := h
        refine x_iast E dX11_nextRow_93 hT hi (fun M19 eM19 => ?_)
        replace h := h M19 eM19
        clear hT hi eM19
        refine x_iload_n E dX11_nextRow_94 rfl 2 rfl ?_
        refine x_iconst (v := (J 1)) E dX11_nextRow_95 (by decide) ?_
        refine x_iadd E dX11_nextRow_96 ?_
        obtain ⟨y20, ey20, h⟩ := h
        refine x_top (v := .int y20) (congrArg _ ey20) ?_
        clear ey20
        refine x_istore (L' := [(4, .int y20), (3, .int v13), (0, .ref j0), (1, .int j1), (2, .int x2)]) E dX11_nextRow_97 (by decide) rfl ?_
        refine x_aload_n E dX11_nextRow_99 rfl 2 rfl ?_
        obtain ⟨hT, v21, hv, h⟩ := h
        refine x_get E flX11_306 dX11_nextRow_100 hT hv ?_
        clear hT hv
        refine x_iconst (v := (J 1)) E dX11_nextRow_103 (by decide) ?_
        refine x_isub E dX11_nextRow_104 ?_
        obtain ⟨y22, ey22, h⟩ := h
        refine x_top (v := .int y22) (congrArg _ ey22) ?_
        clear ey22
        refine x_istore (L' := [(5, .int y22), (4, .int y20), (3, .int v13), (0, .ref j0), (1, .int j1), (2, .int x2)]) E dX11_nextRow_105 (by decide) rfl ?_
        refine x_sub (L' := [(0, .ref j0), (4, .int y20), (5, .int y22)]) [3, 1, 0] rfl ?_
        refine lp_sound (T := fun sv => xG p l e ({ frames := 0, cells := 0, slots := 0, locals := 0 } : Room) s m args below meth c (MQ below (va_Qi K (xWd z D cA) (xA z)) args s 0 0 (xA z)) 7 z D cA sv.1 (0) (0) 107 [(0, .ref j0), (4, .int sv.2.1), (5, .int sv.2.2)] []) ?_ (M19, y20, y22) h
        clear h
        intro kc107 hk107 sv h
        obtain ⟨M, x4, x5⟩ := sv
        replace h : CX11_nextRow_107 K j0 kc107 M x4 x5 := h
        try dsimp only
        refine x_iload E dX11_nextRow_107 1 rfl ?_
        refine x_iload E dX11_nextRow_109 2 rfl ?_
        refine x_icmp_ge (tgt := 155) E dX11_nextRow_111 (by decide) (fun c23 => ?_) (fun c23 => ?_)
        · replace h := xbr_t h c23
          clear c23
          refine x_iconst (v := (J 1)) E dX11_nextRow_155 (by decide) ?_
          exact x_zret E hr hlk dX11_nextRow_156 h.1 h.2
        · replace h := xbr_f h c23
          clear c23
          refine x_aload_n E dX11_nextRow_114 rfl 0 rfl ?_
          obtain ⟨hT, q24, hv, h⟩ := h
          refine x_get E flX11_59 dX11_nextRow_115 hT hv ?_
          clear hT hv
          refine x_iload E dX11_nextRow_118 1 rfl ?_
          obtain ⟨hT, hi, v25, hv, h⟩ := h
          refine x_iald E dX11_nextRow_120 hT hi hv ?_
          clear hT hi hv
          refine x_istore (L' := [(6, .int v25), (0, .ref j0), (4, .int x4), (5, .int x5)]) E dX11_nextRow_121 (by decide) rfl ?_
          refine x_aload_n E dX11_nextRow_123 rfl 1 rfl ?_
          obtain ⟨hT, q26, hv, h⟩ := h
          refine x_get E flX11_59 dX11_nextRow_124 hT hv ?_
          clear hT hv
          refine x_iload E dX11_nextRow_127 2 rfl ?_
          refine x_aload_n E dX11_nextRow_129 rfl 1 rfl ?_
          obtain ⟨hT, q27, hv, h⟩ := h
          refine x_get E flX11_59 dX11_nextRow_130 hT hv ?_
          clear hT hv
          refine x_iload E dX11_nextRow_133 3 rfl ?_
          obtain ⟨hT, hi, v28, hv, h⟩ := h
          refine x_iald E dX11_nextRow_135 hT hi hv ?_
          clear hT hi hv
          obtain ⟨hT, hi, h⟩ := h
          refine x_iast E dX11_nextRow_136 hT hi (fun M29 eM29 => ?_)
          replace h := h M29 eM29
          clear hT hi eM29
          refine x_aload_n E dX11_nextRow_137 rfl 1 rfl ?_
          obtain ⟨hT, q30, hv, h⟩ := h
          refine x_get E flX11_59 dX11_nextRow_138 hT hv ?_
          clear hT hv
          refine x_iload E dX11_nextRow_141 3 rfl ?_
          refine x_iload E dX11_nextRow_143 0 rfl ?_
          obtain ⟨hT, hi, h⟩ := h
          refine x_iast E dX11_nextRow_145 hT hi (fun M31 eM31 => ?_)
          replace h := h M31 eM31
          clear hT hi eM31
          refine x_iinc (v := (x4 + (J 1))) (L' := [(4, .int (x4 + (J 1))), (6, .int v25), (0, .ref j0), (5, .int x5)]) E dX11_nextRow_146 2 rfl rfl (by decide) rfl ?_
          refine x_iinc (v := (x5 + (J (-1)))) (L' := [(5, .int (x5 + (J (-1)))), (4, .int (x4 + (J 1))), (6, .int v25), (0, .ref j0)]) E dX11_nextRow_149 3 rfl rfl (by decide) rfl ?_
          refine x_goto (tgt := 107) E dX11_nextRow_152 (by decide) ?_
          refine x_sub (L' := [(0, .ref j0), (4, .int (x4 + (J 1))), (5, .int (x5 + (J (-1))))]) [3, 1, 0] rfl ?_
          exact hk107 (M31, (x4 + (J 1)), (x5 + (J (-1)))) h
      · replace h := xbr_f h c11
        clear c11
        refine x_iinc (v := (x2 + (J (-1)))) (L' := [(2, .int (x2 + (J (-1)))), (0, .ref j0), (1, .int j1)]) E dX11_nextRow_62 2 rfl rfl (by decide) rfl ?_
        refine x_goto (tgt := 47) E dX11_nextRow_65 (by decide) ?_
        refine x_sub (L' := [(0, .ref j0), (1, .int j1), (2, .int (x2 + (J (-1))))]) [1, 2, 0] rfl ?_
        exact hk47 (x2 + (J (-1))) h
    · replace h := xbr_f h c4
      clear c4
      refine x_iconst (v := (J 0)) E dX11_nextRow_38 (by decide) ?_
      exact x_zret E hr hlk dX11_nextRow_39 h.1 h.2
  replace h := h.2
  refine x_aload_n E dX11_nextRow_0 rfl 0 rfl ?_
  obtain ⟨hT, v1, hv, h⟩ := h
  refine x_get E flX11_306 dX11_nextRow_1 hT hv ?_
  clear hT hv
  refine x_iconst (v := (J 2)) E dX11_nextRow_4 (by decide) ?_
  refine x_isub E dX11_nextRow_5 ?_
  obtain ⟨y2, ey2, h⟩ := h
  refine x_top (v := .int y2) (congrArg _ ey2) ?_
  clear ey2
  refine x_istore_n (L' := [(1, .int y2), (0, .ref a0)]) E dX11_nextRow_6 rfl (by decide) rfl ?_
  refine x_sub (L' := [(0, .ref a0), (1, .int y2)]) [1, 0] rfl ?_
  refine lp_sound (T := fun sv => xG p l e ({ frames := 0, cells := 0, slots := 0, locals := 0 } : Room) s m args below meth c (MQ below (va_Qi K (xWd z D cA) (xA z)) args s 0 0 (xA z)) 7 z D cA M (0) (0) 7 [(0, .ref a0), (1, .int sv)] []) ?_ y2 h
  clear h
  intro kc7 hk7 sv h
  obtain ⟨x1, esv⟩ : ∃ y, y = sv := ⟨_, rfl⟩
  subst esv
  replace h : CX11_nextRow_7 K M a0 kc7 x1 := h
  try dsimp only
  refine x_iload_n E dX11_nextRow_7 rfl 1 rfl ?_
  refine x_if_lt (tgt := 34) E dX11_nextRow_8 (by decide) (fun c3 => ?_) (fun c3 => ?_)
  · replace h := xbr_t h c3
    clear c3
    exact hJ34 M a0 x1 h
  · replace h := xbr_f h c3
    clear c3
    refine x_aload_n E dX11_nextRow_11 rfl 0 rfl ?_
    obtain ⟨hT, q32, hv, h⟩ := h
    refine x_get E flX11_59 dX11_nextRow_12 hT hv ?_
    clear hT hv
    refine x_iload_n E dX11_nextRow_15 rfl 1 rfl ?_
    obtain ⟨hT, hi, v33, hv, h⟩ := h
    refine x_iald E dX11_nextRow_16 hT hi hv ?_
    clear hT hi hv
    refine x_aload_n E dX11_nextRow_17 rfl 0 rfl ?_
    obtain ⟨hT, q34, hv, h⟩ := h
    refine x_get E flX11_59 dX11_nextRow_18 hT hv ?_
    clear hT hv
    refine x_iload_n E dX11_nextRow_21 rfl 1 rfl ?_
    refine x_iconst (v := (J 1)) E dX11_nextRow_22 (by decide) ?_
    refine x_iadd E dX11_nextRow_23 ?_
    obtain ⟨hT, hi, v35, hv, h⟩ := h
    refine x_iald E dX11_nextRow_24 hT hi hv ?_
    clear hT hi hv
    refine x_icmp_le (tgt := 34) E dX11_nextRow_25 (by decide) (fun c36 => ?_) (fun c36 => ?_)
    · replace h := xbr_t h c36
      clear c36
      exact hJ34 M a0 x1 h
    · replace h := xbr_f h c36
      clear c36
      refine x_iinc (v := (x1 + (J (-1)))) (L' := [(1, .int (x1 + (J (-1)))), (0, .ref a0)]) E dX11_nextRow_28 1 rfl rfl (by decide) rfl ?_
      refine x_goto (tgt := 7) E dX11_nextRow_31 (by decide) ?_
      refine x_sub (L' := [(0, .ref a0), (1, .int (x1 + (J (-1))))]) [1, 0] rfl ?_
      exact hk7 (x1 + (J (-1))) h
theorem dX11_weighed_0 : decode cX11_weighed 0 = .ok (.lconst 0, 1) := by decide +kernel
theorem dX11_weighed_1 : decode cX11_weighed 1 = .ok (.lstore_n 1, 1) := by decide +kernel
theorem dX11_weighed_2 : decode cX11_weighed 2 = .ok (.iconst 0, 1) := by decide +kernel
theorem dX11_weighed_3 : decode cX11_weighed 3 = .ok (.istore_n 3, 1) := by decide +kernel
theorem dX11_weighed_4 : decode cX11_weighed 4 = .ok (.iconst 0, 1) := by decide +kernel
theorem dX11_weighed_5 : decode cX11_weighed 5 = .ok (.istore 4, 2) := by decide +kernel
theorem dX11_weighed_7 : decode cX11_weighed 7 = .ok (.iconst 0, 1) := by decide +kernel
theorem dX11_weighed_8 : decode cX11_weighed 8 = .ok (.istore 5, 2) := by decide +kernel
theorem dX11_weighed_10 : decode cX11_weighed 10 = .ok (.iload 5, 2) := by decide +kernel
theorem dX11_weighed_12 : decode cX11_weighed 12 = .ok (.aload_n 0, 1) := by decide +kernel
theorem dX11_weighed_13 : decode cX11_weighed 13 = .ok (.getfield 306, 3) := by decide +kernel
theorem dX11_weighed_16 : decode cX11_weighed 16 = .ok (.if_icmp .ge 81, 3) := by decide +kernel
theorem dX11_weighed_19 : decode cX11_weighed 19 = .ok (.aload_n 0, 1) := by decide +kernel
theorem dX11_weighed_20 : decode cX11_weighed 20 = .ok (.getfield 59, 3) := by decide +kernel
theorem dX11_weighed_23 : decode cX11_weighed 23 = .ok (.iload 5, 2) := by decide +kernel
theorem dX11_weighed_25 : decode cX11_weighed 25 = .ok (.iaload, 1) := by decide +kernel
theorem dX11_weighed_26 : decode cX11_weighed 26 = .ok (.istore 6, 2) := by decide +kernel
theorem dX11_weighed_28 : decode cX11_weighed 28 = .ok (.iload_n 3, 1) := by decide +kernel
theorem dX11_weighed_29 : decode cX11_weighed 29 = .ok (.iload 6, 2) := by decide +kernel
theorem dX11_weighed_31 : decode cX11_weighed 31 = .ok (.iload 4, 2) := by decide +kernel
theorem dX11_weighed_33 : decode cX11_weighed 33 = .ok (.if_icmp .le 11, 3) := by decide +kernel
theorem dX11_weighed_36 : decode cX11_weighed 36 = .ok (.iload 6, 2) := by decide +kernel
theorem dX11_weighed_38 : decode cX11_weighed 38 = .ok (.iload 4, 2) := by decide +kernel
theorem dX11_weighed_40 : decode cX11_weighed 40 = .ok (.isub, 1) := by decide +kernel
theorem dX11_weighed_41 : decode cX11_weighed 41 = .ok (.goto 8, 3) := by decide +kernel
theorem dX11_weighed_44 : decode cX11_weighed 44 = .ok (.iload 4, 2) := by decide +kernel
theorem dX11_weighed_46 : decode cX11_weighed 46 = .ok (.iload 6, 2) := by decide +kernel
theorem dX11_weighed_48 : decode cX11_weighed 48 = .ok (.isub, 1) := by decide +kernel
theorem dX11_weighed_49 : decode cX11_weighed 49 = .ok (.aload_n 0, 1) := by decide +kernel
theorem dX11_weighed_50 : decode cX11_weighed 50 = .ok (.getfield 31, 3) := by decide +kernel
theorem dX11_weighed_53 : decode cX11_weighed 53 = .ok (.iload 6, 2) := by decide +kernel
theorem dX11_weighed_55 : decode cX11_weighed 55 = .ok (.iaload, 1) := by decide +kernel
theorem dX11_weighed_56 : decode cX11_weighed 56 = .ok (.ifCond .le 13, 3) := by decide +kernel
theorem dX11_weighed_59 : decode cX11_weighed 59 = .ok (.aload_n 0, 1) := by decide +kernel
theorem dX11_weighed_60 : decode cX11_weighed 60 = .ok (.getfield 31, 3) := by decide +kernel
theorem dX11_weighed_63 : decode cX11_weighed 63 = .ok (.iload 6, 2) := by decide +kernel
theorem dX11_weighed_65 : decode cX11_weighed 65 = .ok (.iaload, 1) := by decide +kernel
theorem dX11_weighed_66 : decode cX11_weighed 66 = .ok (.goto 4, 3) := by decide +kernel
theorem dX11_weighed_69 : decode cX11_weighed 69 = .ok (.iconst 1, 1) := by decide +kernel
theorem dX11_weighed_70 : decode cX11_weighed 70 = .ok (.iadd, 1) := by decide +kernel
theorem dX11_weighed_71 : decode cX11_weighed 71 = .ok (.iadd, 1) := by decide +kernel
theorem dX11_weighed_72 : decode cX11_weighed 72 = .ok (.istore_n 3, 1) := by decide +kernel
theorem dX11_weighed_73 : decode cX11_weighed 73 = .ok (.iload 6, 2) := by decide +kernel
theorem dX11_weighed_75 : decode cX11_weighed 75 = .ok (.istore 4, 2) := by decide +kernel
theorem dX11_weighed_77 : decode cX11_weighed 77 = .ok (.lload_n 1, 1) := by decide +kernel
theorem dX11_weighed_78 : decode cX11_weighed 78 = .ok (.aload_n 0, 1) := by decide +kernel
theorem dX11_weighed_79 : decode cX11_weighed 79 = .ok (.getfield 65, 3) := by decide +kernel
theorem dX11_weighed_82 : decode cX11_weighed 82 = .ok (.iload 6, 2) := by decide +kernel
theorem dX11_weighed_84 : decode cX11_weighed 84 = .ok (.iaload, 1) := by decide +kernel
theorem dX11_weighed_85 : decode cX11_weighed 85 = .ok (.i2l, 1) := by decide +kernel
theorem dX11_weighed_86 : decode cX11_weighed 86 = .ok (.iload_n 3, 1) := by decide +kernel
theorem dX11_weighed_87 : decode cX11_weighed 87 = .ok (.i2l, 1) := by decide +kernel
theorem dX11_weighed_88 : decode cX11_weighed 88 = .ok (.lmul, 1) := by decide +kernel
theorem dX11_weighed_89 : decode cX11_weighed 89 = .ok (.ladd, 1) := by decide +kernel
theorem dX11_weighed_90 : decode cX11_weighed 90 = .ok (.lstore_n 1, 1) := by decide +kernel
theorem dX11_weighed_91 : decode cX11_weighed 91 = .ok (.iinc 5 1, 3) := by decide +kernel
theorem dX11_weighed_94 : decode cX11_weighed 94 = .ok (.goto (-84), 3) := by decide +kernel
theorem dX11_weighed_97 : decode cX11_weighed 97 = .ok (.lload_n 1, 1) := by decide +kernel
theorem dX11_weighed_98 : decode cX11_weighed 98 = .ok (.lreturn, 1) := by decide +kernel
set_option maxHeartbeats 4000000 in
set_option maxRecDepth 100000 in
theorem kX11_weighed (l : Launch) (z : Nat) (D : va_G) (cA : Nat → ClassId) (a0 : Nat) (M : Mem) (K : Int64 → Prop) (h : PX11_weighed a0 M K) : Met l yX11_weighed (.code yX11_weighed cX11_weighed 7 (some .long) :: gtbl) ({ frames := 0, cells := 0, slots := 0, locals := 0 } : Room) (va_Pc [.ref a0] (xB z D cA M)) (va_Ql (fun r M1 => M1 = M ∧ K r) (xWd z D cA) (xA z)) 0 0 (xA z) := by
  refine x_met (by decide +kernel) (Nat.le_of_ble_eq_true rfl) (L0 := [(0, .ref a0)]) rfl ?_
  intro p e s m args below meth c E hr hlk hnm
  have E : xE RX11 cX11_weighed 7 D cA p s m args c := E
  replace h := h.2
  refine x_lconst (v := (LJ 0)) E dX11_weighed_0 (by decide) ?_
  refine x_lstore_n (L' := [(1, .long (LJ 0)), (0, .ref a0)]) E dX11_weighed_1 rfl (by decide) rfl ?_
  refine x_iconst (v := (J 0)) E dX11_weighed_2 (by decide) ?_
  refine x_istore_n (L' := [(3, .int (J 0)), (1, .long (LJ 0)), (0, .ref a0)]) E dX11_weighed_3 rfl (by decide) rfl ?_
  refine x_iconst (v := (J 0)) E dX11_weighed_4 (by decide) ?_
  refine x_istore (L' := [(4, .int (J 0)), (3, .int (J 0)), (1, .long (LJ 0)), (0, .ref a0)]) E dX11_weighed_5 (by decide) rfl ?_
  refine x_iconst (v := (J 0)) E dX11_weighed_7 (by decide) ?_
  refine x_istore (L' := [(5, .int (J 0)), (4, .int (J 0)), (3, .int (J 0)), (1, .long (LJ 0)), (0, .ref a0)]) E dX11_weighed_8 (by decide) rfl ?_
  refine x_sub (L' := [(0, .ref a0), (1, .long (LJ 0)), (3, .int (J 0)), (4, .int (J 0)), (5, .int (J 0))]) [4, 3, 2, 1, 0] rfl ?_
  refine lp_sound (T := fun sv => xG p l e ({ frames := 0, cells := 0, slots := 0, locals := 0 } : Room) s m args below meth c (MQ below (va_Ql (fun r M1 => M1 = M ∧ K r) (xWd z D cA) (xA z)) args s 0 0 (xA z)) 7 z D cA M (0) (0) 10 [(0, .ref a0), (1, .long sv.1), (3, .int sv.2.1), (4, .int sv.2.2.1), (5, .int sv.2.2.2)] []) ?_ ((LJ 0), (J 0), (J 0), (J 0)) h
  clear h
  intro kc10 hk10 sv h
  obtain ⟨x1, x3, x4, x5⟩ := sv
  replace h : CX11_weighed_10 K M a0 kc10 x1 x3 x4 x5 := h
  try dsimp only
  have hJ70 : ∀ (j1 : Int64) (j5 : Int32) (j6 : Int32) (s0 : Int32) (s1 : Int32) (s2 : Int32), JX11_weighed_70 K kc10 M a0 j1 j5 j6 s0 s1 s2 → xG p l e ({ frames := 0, cells := 0, slots := 0, locals := 0 } : Room) s m args below meth c (MQ below (va_Ql (fun r M1 => M1 = M ∧ K r) (xWd z D cA) (xA z)) args s 0 0 (xA z)) 7 z D cA M (0) (0) 70 [(0, .ref a0), (1, .long j1), (5, .int j5), (6, .int j6)] [.int s0, .int s1, .int s2] := by
    intro j1 j5 j6 s0 s1 s2 h
    refine x_iadd E dX11_weighed_70 ?_
    refine x_iadd E dX11_weighed_71 ?_
    obtain ⟨y9, ey9, h⟩ := h
    refine x_top (v := .int y9) (congrArg _ ey9) ?_
    clear ey9
    refine x_istore_n (L' := [(3, .int y9), (0, .ref a0), (1, .long j1), (5, .int j5), (6, .int j6)]) E dX11_weighed_72 rfl (by decide) rfl ?_
    refine x_iload E dX11_weighed_73 4 rfl ?_
    refine x_istore (L' := [(4, .int j6), (3, .int y9), (0, .ref a0), (1, .long j1), (5, .int j5), (6, .int j6)]) E dX11_weighed_75 (by decide) rfl ?_
    refine x_lload_n E dX11_weighed_77 rfl 3 rfl ?_
    refine x_aload_n E dX11_weighed_78 rfl 2 rfl ?_
    obtain ⟨hT, q10, hv, h⟩ := h
    refine x_get E flX11_65 dX11_weighed_79 hT hv ?_
    clear hT hv
    refine x_iload E dX11_weighed_82 5 rfl ?_
    obtain ⟨hT, hi, v11, hv, h⟩ := h
    refine x_iald E dX11_weighed_84 hT hi hv ?_
    clear hT hi hv
    refine x_i2l E dX11_weighed_85 ?_
    refine x_iload_n E dX11_weighed_86 rfl 1 rfl ?_
    refine x_i2l E dX11_weighed_87 ?_
    refine x_lmul E dX11_weighed_88 ?_
    refine x_ladd E dX11_weighed_89 ?_
    obtain ⟨y12, ey12, h⟩ := h
    refine x_top (v := .long y12) (congrArg _ ey12) ?_
    clear ey12
    refine x_lstore_n (L' := [(1, .long y12), (4, .int j6), (3, .int y9), (0, .ref a0), (5, .int j5), (6, .int j6)]) E dX11_weighed_90 rfl (by decide) rfl ?_
    refine x_iinc (v := (j5 + (J 1))) (L' := [(5, .int (j5 + (J 1))), (1, .long y12), (4, .int j6), (3, .int y9), (0, .ref a0), (6, .int j6)]) E dX11_weighed_91 4 rfl rfl (by decide) rfl ?_
    refine x_goto (tgt := 10) E dX11_weighed_94 (by decide) ?_
    refine x_sub (L' := [(0, .ref a0), (1, .long y12), (3, .int y9), (4, .int j6), (5, .int (j5 + (J 1)))]) [4, 1, 3, 2, 0] rfl ?_
    exact hk10 (y12, y9, j6, (j5 + (J 1))) h
  have hJ49 : ∀ (j1 : Int64) (j5 : Int32) (j6 : Int32) (s0 : Int32) (s1 : Int32), JX11_weighed_49 K kc10 M a0 j1 j5 j6 s0 s1 → xG p l e ({ frames := 0, cells := 0, slots := 0, locals := 0 } : Room) s m args below meth c (MQ below (va_Ql (fun r M1 => M1 = M ∧ K r) (xWd z D cA) (xA z)) args s 0 0 (xA z)) 7 z D cA M (0) (0) 49 [(0, .ref a0), (1, .long j1), (5, .int j5), (6, .int j6)] [.int s0, .int s1] := by
    intro j1 j5 j6 s0 s1 h
    refine x_aload_n E dX11_weighed_49 rfl 0 rfl ?_
    obtain ⟨hT, q6, hv, h⟩ := h
    refine x_get E flX11_31 dX11_weighed_50 hT hv ?_
    clear hT hv
    refine x_iload E dX11_weighed_53 3 rfl ?_
    obtain ⟨hT, hi, v7, hv, h⟩ := h
    refine x_iald E dX11_weighed_55 hT hi hv ?_
    clear hT hi hv
    refine x_if_le (tgt := 69) E dX11_weighed_56 (by decide) (fun c8 => ?_) (fun c8 => ?_)
    · replace h := xbr_t h c8
      clear c8
      refine x_iconst (v := (J 1)) E dX11_weighed_69 (by decide) ?_
      exact hJ70 j1 j5 j6 (J 1) s0 s1 h
    · replace h := xbr_f h c8
      clear c8
      refine x_aload_n E dX11_weighed_59 rfl 0 rfl ?_
      obtain ⟨hT, q13, hv, h⟩ := h
      refine x_get E flX11_31 dX11_weighed_60 hT hv ?_
      clear hT hv
      refine x_iload E dX11_weighed_63 3 rfl ?_
      obtain ⟨hT, hi, v14, hv, h⟩ := h
      refine x_iald E dX11_weighed_65 hT hi hv ?_
      clear hT hi hv
      refine x_goto (tgt := 70) E dX11_weighed_66 (by decide) ?_
      exact hJ70 j1 j5 j6 v14 s0 s1 h
  refine x_iload E dX11_weighed_10 4 rfl ?_
  refine x_aload_n E dX11_weighed_12 rfl 0 rfl ?_
  obtain ⟨hT, v1, hv, h⟩ := h
  refine x_get E flX11_306 dX11_weighed_13 hT hv ?_
  clear hT hv
  refine x_icmp_ge (tgt := 97) E dX11_weighed_16 (by decide) (fun c2 => ?_) (fun c2 => ?_)
  · replace h := xbr_t h c2
    clear c2
    refine x_lload_n E dX11_weighed_97 rfl 1 rfl ?_
    exact x_lret E hr hlk dX11_weighed_98 ⟨rfl, h⟩
  · replace h := xbr_f h c2
    clear c2
    refine x_aload_n E dX11_weighed_19 rfl 0 rfl ?_
    obtain ⟨hT, q3, hv, h⟩ := h
    refine x_get E flX11_59 dX11_weighed_20 hT hv ?_
    clear hT hv
    refine x_iload E dX11_weighed_23 4 rfl ?_
    obtain ⟨hT, hi, v4, hv, h⟩ := h
    refine x_iald E dX11_weighed_25 hT hi hv ?_
    clear hT hi hv
    refine x_istore (L' := [(6, .int v4), (0, .ref a0), (1, .long x1), (3, .int x3), (4, .int x4), (5, .int x5)]) E dX11_weighed_26 (by decide) rfl ?_
    refine x_iload_n E dX11_weighed_28 rfl 3 rfl ?_
    refine x_iload E dX11_weighed_29 0 rfl ?_
    refine x_iload E dX11_weighed_31 4 rfl ?_
    refine x_icmp_le (tgt := 44) E dX11_weighed_33 (by decide) (fun c5 => ?_) (fun c5 => ?_)
    · replace h := xbr_t h c5
      clear c5
      refine x_iload E dX11_weighed_44 4 rfl ?_
      refine x_iload E dX11_weighed_46 0 rfl ?_
      refine x_isub E dX11_weighed_48 ?_
      refine x_sub (L' := [(0, .ref a0), (1, .long x1), (5, .int x5), (6, .int v4)]) [1, 2, 5, 0] rfl ?_
      exact hJ49 x1 x5 v4 (x4 - v4) x3 h
    · replace h := xbr_f h c5
      clear c5
      refine x_iload E dX11_weighed_36 0 rfl ?_
      refine x_iload E dX11_weighed_38 4 rfl ?_
      refine x_isub E dX11_weighed_40 ?_
      refine x_goto (tgt := 49) E dX11_weighed_41 (by decide) ?_
      refine x_sub (L' := [(0, .ref a0), (1, .long x1), (5, .int x5), (6, .int v4)]) [1, 2, 5, 0] rfl ?_
      exact hJ49 x1 x5 v4 (v4 - x4) x3 h
theorem dX11_findSearch_0 : decode cX11_findSearch 0 = .ok (.aload_n 0, 1) := by decide +kernel
theorem dX11_findSearch_1 : decode cX11_findSearch 1 = .ok (.iconst 0, 1) := by decide +kernel
theorem dX11_findSearch_2 : decode cX11_findSearch 2 = .ok (.putfield 306, 3) := by decide +kernel
theorem dX11_findSearch_5 : decode cX11_findSearch 5 = .ok (.iconst 0, 1) := by decide +kernel
theorem dX11_findSearch_6 : decode cX11_findSearch 6 = .ok (.istore_n 2, 1) := by decide +kernel
theorem dX11_findSearch_7 : decode cX11_findSearch 7 = .ok (.iload_n 2, 1) := by decide +kernel
theorem dX11_findSearch_8 : decode cX11_findSearch 8 = .ok (.bipush 8, 2) := by decide +kernel
theorem dX11_findSearch_10 : decode cX11_findSearch 10 = .ok (.if_icmp .ge 50, 3) := by decide +kernel
theorem dX11_findSearch_13 : decode cX11_findSearch 13 = .ok (.aload_n 0, 1) := by decide +kernel
theorem dX11_findSearch_14 : decode cX11_findSearch 14 = .ok (.getfield 65, 3) := by decide +kernel
theorem dX11_findSearch_17 : decode cX11_findSearch 17 = .ok (.iload_n 2, 1) := by decide +kernel
theorem dX11_findSearch_18 : decode cX11_findSearch 18 = .ok (.aload_n 0, 1) := by decide +kernel
theorem dX11_findSearch_19 : decode cX11_findSearch 19 = .ok (.iload_n 1, 1) := by decide +kernel
theorem dX11_findSearch_20 : decode cX11_findSearch 20 = .ok (.iload_n 2, 1) := by decide +kernel
theorem dX11_findSearch_21 : decode cX11_findSearch 21 = .ok (.invokevirtual 303, 3) := by decide +kernel
theorem dX11_findSearch_24 : decode cX11_findSearch 24 = .ok (.iastore, 1) := by decide +kernel
theorem dX11_findSearch_25 : decode cX11_findSearch 25 = .ok (.aload_n 0, 1) := by decide +kernel
theorem dX11_findSearch_26 : decode cX11_findSearch 26 = .ok (.getfield 65, 3) := by decide +kernel
theorem dX11_findSearch_29 : decode cX11_findSearch 29 = .ok (.iload_n 2, 1) := by decide +kernel
theorem dX11_findSearch_30 : decode cX11_findSearch 30 = .ok (.iaload, 1) := by decide +kernel
theorem dX11_findSearch_31 : decode cX11_findSearch 31 = .ok (.ifCond .le 23, 3) := by decide +kernel
theorem dX11_findSearch_34 : decode cX11_findSearch 34 = .ok (.aload_n 0, 1) := by decide +kernel
theorem dX11_findSearch_35 : decode cX11_findSearch 35 = .ok (.getfield 59, 3) := by decide +kernel
theorem dX11_findSearch_38 : decode cX11_findSearch 38 = .ok (.aload_n 0, 1) := by decide +kernel
theorem dX11_findSearch_39 : decode cX11_findSearch 39 = .ok (.getfield 306, 3) := by decide +kernel
theorem dX11_findSearch_42 : decode cX11_findSearch 42 = .ok (.iload_n 2, 1) := by decide +kernel
theorem dX11_findSearch_43 : decode cX11_findSearch 43 = .ok (.iastore, 1) := by decide +kernel
theorem dX11_findSearch_44 : decode cX11_findSearch 44 = .ok (.aload_n 0, 1) := by decide +kernel
theorem dX11_findSearch_45 : decode cX11_findSearch 45 = .ok (.dup, 1) := by decide +kernel
theorem dX11_findSearch_46 : decode cX11_findSearch 46 = .ok (.getfield 306, 3) := by decide +kernel
theorem dX11_findSearch_49 : decode cX11_findSearch 49 = .ok (.iconst 1, 1) := by decide +kernel
theorem dX11_findSearch_50 : decode cX11_findSearch 50 = .ok (.iadd, 1) := by decide +kernel
theorem dX11_findSearch_51 : decode cX11_findSearch 51 = .ok (.putfield 306, 3) := by decide +kernel
theorem dX11_findSearch_54 : decode cX11_findSearch 54 = .ok (.iinc 2 1, 3) := by decide +kernel
theorem dX11_findSearch_57 : decode cX11_findSearch 57 = .ok (.goto (-50), 3) := by decide +kernel
theorem dX11_findSearch_60 : decode cX11_findSearch 60 = .ok (.iconst (-1), 1) := by decide +kernel
theorem dX11_findSearch_61 : decode cX11_findSearch 61 = .ok (.istore_n 2, 1) := by decide +kernel
theorem dX11_findSearch_62 : decode cX11_findSearch 62 = .ok (.iconst 1, 1) := by decide +kernel
theorem dX11_findSearch_63 : decode cX11_findSearch 63 = .ok (.istore_n 3, 1) := by decide +kernel
theorem dX11_findSearch_64 : decode cX11_findSearch 64 = .ok (.iload_n 3, 1) := by decide +kernel
theorem dX11_findSearch_65 : decode cX11_findSearch 65 = .ok (.ifCond .eq 67, 3) := by decide +kernel
theorem dX11_findSearch_68 : decode cX11_findSearch 68 = .ok (.aload_n 0, 1) := by decide +kernel
theorem dX11_findSearch_69 : decode cX11_findSearch 69 = .ok (.invokevirtual 309, 3) := by decide +kernel
theorem dX11_findSearch_72 : decode cX11_findSearch 72 = .ok (.ldc2_w 132, 3) := by decide +kernel
theorem dX11_findSearch_75 : decode cX11_findSearch 75 = .ok (.ldiv, 1) := by decide +kernel
theorem dX11_findSearch_76 : decode cX11_findSearch 76 = .ok (.l2i, 1) := by decide +kernel
theorem dX11_findSearch_77 : decode cX11_findSearch 77 = .ok (.istore 4, 2) := by decide +kernel
theorem dX11_findSearch_79 : decode cX11_findSearch 79 = .ok (.iload_n 2, 1) := by decide +kernel
theorem dX11_findSearch_80 : decode cX11_findSearch 80 = .ok (.ifCond .lt 9, 3) := by decide +kernel
theorem dX11_findSearch_83 : decode cX11_findSearch 83 = .ok (.iload 4, 2) := by decide +kernel
theorem dX11_findSearch_85 : decode cX11_findSearch 85 = .ok (.iload_n 2, 1) := by decide +kernel
theorem dX11_findSearch_86 : decode cX11_findSearch 86 = .ok (.if_icmp .ge 38, 3) := by decide +kernel
theorem dX11_findSearch_89 : decode cX11_findSearch 89 = .ok (.iload 4, 2) := by decide +kernel
theorem dX11_findSearch_91 : decode cX11_findSearch 91 = .ok (.istore_n 2, 1) := by decide +kernel
theorem dX11_findSearch_92 : decode cX11_findSearch 92 = .ok (.iconst 0, 1) := by decide +kernel
theorem dX11_findSearch_93 : decode cX11_findSearch 93 = .ok (.istore 5, 2) := by decide +kernel
theorem dX11_findSearch_95 : decode cX11_findSearch 95 = .ok (.iload 5, 2) := by decide +kernel
theorem dX11_findSearch_97 : decode cX11_findSearch 97 = .ok (.aload_n 0, 1) := by decide +kernel
theorem dX11_findSearch_98 : decode cX11_findSearch 98 = .ok (.getfield 306, 3) := by decide +kernel
theorem dX11_findSearch_101 : decode cX11_findSearch 101 = .ok (.if_icmp .ge 23, 3) := by decide +kernel
theorem dX11_findSearch_104 : decode cX11_findSearch 104 = .ok (.aload_n 0, 1) := by decide +kernel
theorem dX11_findSearch_105 : decode cX11_findSearch 105 = .ok (.getfield 62, 3) := by decide +kernel
theorem dX11_findSearch_108 : decode cX11_findSearch 108 = .ok (.iload 5, 2) := by decide +kernel
theorem dX11_findSearch_110 : decode cX11_findSearch 110 = .ok (.aload_n 0, 1) := by decide +kernel
theorem dX11_findSearch_111 : decode cX11_findSearch 111 = .ok (.getfield 59, 3) := by decide +kernel
theorem dX11_findSearch_114 : decode cX11_findSearch 114 = .ok (.iload 5, 2) := by decide +kernel
theorem dX11_findSearch_116 : decode cX11_findSearch 116 = .ok (.iaload, 1) := by decide +kernel
theorem dX11_findSearch_117 : decode cX11_findSearch 117 = .ok (.iastore, 1) := by decide +kernel
theorem dX11_findSearch_118 : decode cX11_findSearch 118 = .ok (.iinc 5 1, 3) := by decide +kernel
theorem dX11_findSearch_121 : decode cX11_findSearch 121 = .ok (.goto (-26), 3) := by decide +kernel
theorem dX11_findSearch_124 : decode cX11_findSearch 124 = .ok (.aload_n 0, 1) := by decide +kernel
theorem dX11_findSearch_125 : decode cX11_findSearch 125 = .ok (.invokevirtual 313, 3) := by decide +kernel
theorem dX11_findSearch_128 : decode cX11_findSearch 128 = .ok (.istore_n 3, 1) := by decide +kernel
theorem dX11_findSearch_129 : decode cX11_findSearch 129 = .ok (.goto (-65), 3) := by decide +kernel
theorem dX11_findSearch_132 : decode cX11_findSearch 132 = .ok (.iload_n 2, 1) := by decide +kernel
theorem dX11_findSearch_133 : decode cX11_findSearch 133 = .ok (.ireturn, 1) := by decide +kernel
set_option maxHeartbeats 4000000 in
set_option maxRecDepth 100000 in
theorem kX11_findSearch (l : Launch) (z : Nat) (D : va_G) (cA : Nat → ClassId) (a0 : Nat) (x1 : Int32) (M : Mem) (K : Int32 → Mem → Prop) (h : PX11_findSearch a0 x1 M K) : Met l yX11_findSearch (.code yX11_findSearch cX11_findSearch 6 (some .int) :: gtbl) ({ frames := 5, cells := 0, slots := 0, locals := 120 } : Room) (va_Pc [.ref a0, .int x1] (xB z D cA M)) (va_Qi K (xWd z D cA) (xA z)) 0 0 (xA z) := by
  refine x_met (by decide +kernel) (Nat.le_of_ble_eq_true rfl) (L0 := [(0, .ref a0), (1, .int x1)]) rfl ?_
  intro p e s m args below meth c E hr hlk hnm
  have E : xE RX11 cX11_findSearch 6 D cA p s m args c := E
  replace h := h.2
  refine x_aload_n E dX11_findSearch_0 rfl 0 rfl ?_
  refine x_iconst (v := (J 0)) E dX11_findSearch_1 (by decide) ?_
  obtain ⟨hT, h⟩ := h
  refine x_put E flX11_306 ⟨tyX11_ok, nmX11, rfl⟩ (by decide +kernel) rfl rfl dX11_findSearch_2 hT (fun M1 eM1 => ?_)
  replace h := h M1 eM1
  clear hT eM1
  refine x_iconst (v := (J 0)) E dX11_findSearch_5 (by decide) ?_
  refine x_istore_n (L' := [(2, .int (J 0)), (0, .ref a0), (1, .int x1)]) E dX11_findSearch_6 rfl (by decide) rfl ?_
  refine x_sub (L' := [(0, .ref a0), (1, .int x1), (2, .int (J 0))]) [1, 2, 0] rfl ?_
  refine lp_sound (T := fun sv => xG p l e ({ frames := 5, cells := 0, slots := 0, locals := 120 } : Room) s m args below meth c (MQ below (va_Qi K (xWd z D cA) (xA z)) args s 0 0 (xA z)) 6 z D cA sv.1 (0) (0) 7 [(0, .ref a0), (1, .int x1), (2, .int sv.2)] []) ?_ (M1, (J 0)) h
  clear h
  intro kc7 hk7 sv h
  obtain ⟨M, x2⟩ := sv
  replace h : CX11_findSearch_7 K a0 x1 kc7 M x2 := h
  try dsimp only
  refine x_iload_n E dX11_findSearch_7 rfl 2 rfl ?_
  refine x_bipush (v := (J 8)) E dX11_findSearch_8 (by decide) ?_
  refine x_icmp_ge (tgt := 60) E dX11_findSearch_10 (by decide) (fun c2 => ?_) (fun c2 => ?_)
  · replace h := xbr_t h c2
    clear c2
    refine x_iconst (v := (J (-1))) E dX11_findSearch_60 (by decide) ?_
    refine x_istore_n (L' := [(2, .int (J (-1))), (0, .ref a0), (1, .int x1)]) E dX11_findSearch_61 rfl (by decide) rfl ?_
    refine x_iconst (v := (J 1)) E dX11_findSearch_62 (by decide) ?_
    refine x_istore_n (L' := [(3, .int (J 1)), (2, .int (J (-1))), (0, .ref a0), (1, .int x1)]) E dX11_findSearch_63 rfl (by decide) rfl ?_
    refine x_sub (L' := [(0, .ref a0), (2, .int (J (-1))), (3, .int (J 1))]) [2, 1, 0] rfl ?_
    refine lp_sound (T := fun sv => xG p l e ({ frames := 5, cells := 0, slots := 0, locals := 120 } : Room) s m args below meth c (MQ below (va_Qi K (xWd z D cA) (xA z)) args s 0 0 (xA z)) 6 z D cA sv.1 (0) (0) 64 [(0, .ref a0), (2, .int sv.2.1), (3, .int sv.2.2)] []) ?_ (M, (J (-1)), (J 1)) h
    clear h
    intro kc64 hk64 sv h
    obtain ⟨M, x2, x3⟩ := sv
    replace h : CX11_findSearch_64 K a0 kc64 M x2 x3 := h
    try dsimp only
    have hJ124 : ∀ (M : Mem) (j2 : Int32), JX11_findSearch_124 K kc64 M a0 j2 → xG p l e ({ frames := 5, cells := 0, slots := 0, locals := 120 } : Room) s m args below meth c (MQ below (va_Qi K (xWd z D cA) (xA z)) args s 0 0 (xA z)) 6 z D cA M (0) (0) 124 [(0, .ref a0), (2, .int j2)] [] := by
      intro M j2 h
      refine x_aload_n E dX11_findSearch_124 rfl 0 rfl ?_
      refine x_callVi (T := TX11) (N := 32) (t := 12) (As := []) E mlX11_313 inX11_nextRow seX11_nextRow rfl ⟨by decide, by decide⟩ (tX11_nextRow h) (kX11_nextRow l z D cA a0 M _ h) rfl ⟨rfl, rfl⟩ ⟨Nat.le_of_ble_eq_true rfl, Nat.le_of_ble_eq_true rfl⟩ ⟨(Nat.le_of_ble_eq_true rfl), (Nat.le_of_ble_eq_true rfl)⟩ (Nat.le_of_ble_eq_true rfl) rfl dX11_findSearch_125 (fun r10 M11 h => ?_)
      refine x_istore_n (L' := [(3, .int r10), (0, .ref a0), (2, .int j2)]) E dX11_findSearch_128 rfl (by decide) rfl ?_
      refine x_goto (tgt := 64) E dX11_findSearch_129 (by decide) ?_
      refine x_sub (L' := [(0, .ref a0), (2, .int j2), (3, .int r10)]) [1, 2, 0] rfl ?_
      exact hk64 (M11, j2, r10) h
    have hJ89 : ∀ (M : Mem) (j4 : Int32), JX11_findSearch_89 K kc64 M a0 j4 → xG p l e ({ frames := 5, cells := 0, slots := 0, locals := 120 } : Room) s m args below meth c (MQ below (va_Qi K (xWd z D cA) (xA z)) args s 0 0 (xA z)) 6 z D cA M (0) (0) 89 [(0, .ref a0), (4, .int j4)] [] := by
      intro M j4 h
      refine x_iload E dX11_findSearch_89 1 rfl ?_
      refine x_istore_n (L' := [(2, .int j4), (0, .ref a0), (4, .int j4)]) E dX11_findSearch_91 rfl (by decide) rfl ?_
      refine x_iconst (v := (J 0)) E dX11_findSearch_92 (by decide) ?_
      refine x_istore (L' := [(5, .int (J 0)), (2, .int j4), (0, .ref a0), (4, .int j4)]) E dX11_findSearch_93 (by decide) rfl ?_
      refine x_sub (L' := [(0, .ref a0), (2, .int j4), (5, .int (J 0))]) [2, 1, 0] rfl ?_
      refine lp_sound (T := fun sv => xG p l e ({ frames := 5, cells := 0, slots := 0, locals := 120 } : Room) s m args below meth c (MQ below (va_Qi K (xWd z D cA) (xA z)) args s 0 0 (xA z)) 6 z D cA sv.1 (0) (0) 95 [(0, .ref a0), (2, .int j4), (5, .int sv.2)] []) ?_ (M, (J 0)) h
      clear h
      intro kc95 hk95 sv h
      obtain ⟨M, x5⟩ := sv
      replace h : CX11_findSearch_95 K kc64 a0 j4 kc95 M x5 := h
      try dsimp only
      refine x_iload E dX11_findSearch_95 2 rfl ?_
      refine x_aload_n E dX11_findSearch_97 rfl 0 rfl ?_
      obtain ⟨hT, v8, hv, h⟩ := h
      refine x_get E flX11_306 dX11_findSearch_98 hT hv ?_
      clear hT hv
      refine x_icmp_ge (tgt := 124) E dX11_findSearch_101 (by decide) (fun c9 => ?_) (fun c9 => ?_)
      · replace h := xbr_t h c9
        clear c9
        refine x_sub (L' := [(0, .ref a0), (2, .int j4)]) [0, 1] rfl ?_
        exact hJ124 M j4 h
      · replace h := xbr_f h c9
        clear c9
        refine x_aload_n E dX11_findSearch_104 rfl 0 rfl ?_
        obtain ⟨hT, q12, hv, h⟩ := h
        refine x_get E flX11_62 dX11_findSearch_105 hT hv ?_
        clear hT hv
        refine x_iload E dX11_findSearch_108 2 rfl ?_
        refine x_aload_n E dX11_findSearch_110 rfl 0 rfl ?_
        obtain ⟨hT, q13, hv, h⟩ := h
        refine x_get E flX11_59 dX11_findSearch_111 hT hv ?_
        clear hT hv
        refine x_iload E dX11_findSearch_114 2 rfl ?_
        obtain ⟨hT, hi, v14, hv, h⟩ := h
        refine x_iald E dX11_findSearch_116 hT hi hv ?_
        clear hT hi hv
        obtain ⟨hT, hi, h⟩ := h
        refine x_iast E dX11_findSearch_117 hT hi (fun M15 eM15 => ?_)
        replace h := h M15 eM15
        clear hT hi eM15
        refine x_iinc (v := (x5 + (J 1))) (L' := [(5, .int (x5 + (J 1))), (0, .ref a0), (2, .int j4)]) E dX11_findSearch_118 2 rfl rfl (by decide) rfl ?_
        refine x_goto (tgt := 95) E dX11_findSearch_121 (by decide) ?_
        refine x_sub (L' := [(0, .ref a0), (2, .int j4), (5, .int (x5 + (J 1)))]) [1, 2, 0] rfl ?_
        exact hk95 (M15, (x5 + (J 1))) h
    refine x_iload_n E dX11_findSearch_64 rfl 2 rfl ?_
    refine x_if_eq (tgt := 132) E dX11_findSearch_65 (by decide) (fun c3 => ?_) (fun c3 => ?_)
    · replace h := xbr_t h c3
      clear c3
      refine x_iload_n E dX11_findSearch_132 rfl 1 rfl ?_
      exact x_iret E hr hlk dX11_findSearch_133 h
    · replace h := xbr_f h c3
      clear c3
      refine x_aload_n E dX11_findSearch_68 rfl 0 rfl ?_
      refine x_callVl (T := TX11) (N := 32) (t := 12) (As := []) E mlX11_309 inX11_weighed seX11_weighed rfl ⟨by decide, by decide⟩ (tX11_weighed h) (kX11_weighed l z D cA a0 M _ h) rfl ⟨rfl, rfl⟩ ⟨Nat.le_of_ble_eq_true rfl, Nat.le_of_ble_eq_true rfl⟩ ⟨(Nat.le_of_ble_eq_true rfl), (Nat.le_of_ble_eq_true rfl)⟩ (Nat.le_of_ble_eq_true rfl) rfl dX11_findSearch_69 (x_pure (fun r4 h => ?_))
      refine x_ldc2 (v := (LJ 1000)) E (gw 1024 (by decide +kernel) rfl) dX11_findSearch_72 ?_
      refine x_ldiv E dX11_findSearch_75 (by decide) ?_
      refine x_l2i E dX11_findSearch_76 ?_
      obtain ⟨y6, ey6, h⟩ := h
      refine x_top (v := .int y6) (congrArg _ ey6) ?_
      clear ey6
      refine x_istore (L' := [(4, .int y6), (0, .ref a0), (2, .int x2), (3, .int x3)]) E dX11_findSearch_77 (by decide) rfl ?_
      refine x_iload_n E dX11_findSearch_79 rfl 2 rfl ?_
      refine x_if_lt (tgt := 89) E dX11_findSearch_80 (by decide) (fun c7 => ?_) (fun c7 => ?_)
      · replace h := xbr_t h c7
        clear c7
        refine x_sub (L' := [(0, .ref a0), (4, .int y6)]) [1, 0] rfl ?_
        exact hJ89 M y6 h
      · replace h := xbr_f h c7
        clear c7
        refine x_iload E dX11_findSearch_83 0 rfl ?_
        refine x_iload_n E dX11_findSearch_85 rfl 2 rfl ?_
        refine x_icmp_ge (tgt := 124) E dX11_findSearch_86 (by decide) (fun c16 => ?_) (fun c16 => ?_)
        · replace h := xbr_t h c16
          clear c16
          refine x_sub (L' := [(0, .ref a0), (2, .int x2)]) [1, 2] rfl ?_
          exact hJ124 M x2 h
        · replace h := xbr_f h c16
          clear c16
          refine x_sub (L' := [(0, .ref a0), (4, .int y6)]) [1, 0] rfl ?_
          exact hJ89 M y6 h
  · replace h := xbr_f h c2
    clear c2
    refine x_aload_n E dX11_findSearch_13 rfl 0 rfl ?_
    obtain ⟨hT, q17, hv, h⟩ := h
    refine x_get E flX11_65 dX11_findSearch_14 hT hv ?_
    clear hT hv
    refine x_iload_n E dX11_findSearch_17 rfl 2 rfl ?_
    refine x_aload_n E dX11_findSearch_18 rfl 0 rfl ?_
    refine x_iload_n E dX11_findSearch_19 rfl 1 rfl ?_
    refine x_iload_n E dX11_findSearch_20 rfl 2 rfl ?_
    refine x_callVi (T := TX11) (N := 32) (t := 12) (As := [.int x1, .int x2]) E mlX11_303 inX11_likelyOn seX11_likelyOn rfl ⟨by decide, by decide⟩ (tX11_likelyOn h) (kX11_likelyOn l z D cA a0 x1 x2 M _ h) rfl ⟨rfl, rfl⟩ ⟨Nat.le_of_ble_eq_true rfl, Nat.le_of_ble_eq_true rfl⟩ ⟨(Nat.le_of_ble_eq_true rfl), (Nat.le_of_ble_eq_true rfl)⟩ (Nat.le_of_ble_eq_true rfl) rfl dX11_findSearch_21 (x_pure (fun r18 h => ?_))
    obtain ⟨hT, hi, h⟩ := h
    refine x_iast E dX11_findSearch_24 hT hi (fun M20 eM20 => ?_)
    replace h := h M20 eM20
    clear hT hi eM20
    refine x_aload_n E dX11_findSearch_25 rfl 0 rfl ?_
    obtain ⟨hT, q21, hv, h⟩ := h
    refine x_get E flX11_65 dX11_findSearch_26 hT hv ?_
    clear hT hv
    refine x_iload_n E dX11_findSearch_29 rfl 2 rfl ?_
    obtain ⟨hT, hi, v22, hv, h⟩ := h
    refine x_iald E dX11_findSearch_30 hT hi hv ?_
    clear hT hi hv
    refine x_if_le (tgt := 54) E dX11_findSearch_31 (by decide) (fun c23 => ?_) (fun c23 => ?_)
    · replace h := xbr_t h c23
      clear c23
      refine x_iinc (v := (x2 + (J 1))) (L' := [(2, .int (x2 + (J 1))), (0, .ref a0), (1, .int x1)]) E dX11_findSearch_54 2 rfl rfl (by decide) rfl ?_
      refine x_goto (tgt := 7) E dX11_findSearch_57 (by decide) ?_
      refine x_sub (L' := [(0, .ref a0), (1, .int x1), (2, .int (x2 + (J 1)))]) [1, 2, 0] rfl ?_
      exact hk7 (M20, (x2 + (J 1))) h
    · replace h := xbr_f h c23
      clear c23
      refine x_aload_n E dX11_findSearch_34 rfl 0 rfl ?_
      obtain ⟨hT, q24, hv, h⟩ := h
      refine x_get E flX11_59 dX11_findSearch_35 hT hv ?_
      clear hT hv
      refine x_aload_n E dX11_findSearch_38 rfl 0 rfl ?_
      obtain ⟨hT, v25, hv, h⟩ := h
      refine x_get E flX11_306 dX11_findSearch_39 hT hv ?_
      clear hT hv
      refine x_iload_n E dX11_findSearch_42 rfl 2 rfl ?_
      obtain ⟨hT, hi, h⟩ := h
      refine x_iast E dX11_findSearch_43 hT hi (fun M26 eM26 => ?_)
      replace h := h M26 eM26
      clear hT hi eM26
      refine x_aload_n E dX11_findSearch_44 rfl 0 rfl ?_
      refine x_dup E dX11_findSearch_45 rfl ?_
      obtain ⟨hT, v27, hv, h⟩ := h
      refine x_get E flX11_306 dX11_findSearch_46 hT hv ?_
      clear hT hv
      refine x_iconst (v := (J 1)) E dX11_findSearch_49 (by decide) ?_
      refine x_iadd E dX11_findSearch_50 ?_
      obtain ⟨hT, h⟩ := h
      refine x_put E flX11_306 ⟨tyX11_ok, nmX11, rfl⟩ (by decide +kernel) rfl rfl dX11_findSearch_51 hT (fun M28 eM28 => ?_)
      replace h := h M28 eM28
      clear hT eM28
      refine x_iinc (v := (x2 + (J 1))) (L' := [(2, .int (x2 + (J 1))), (0, .ref a0), (1, .int x1)]) E dX11_findSearch_54 2 rfl rfl (by decide) rfl ?_
      refine x_goto (tgt := 7) E dX11_findSearch_57 (by decide) ?_
      refine x_sub (L' := [(0, .ref a0), (1, .int x1), (2, .int (x2 + (J 1)))]) [1, 2, 0] rfl ?_
      exact hk7 (M28, (x2 + (J 1))) h
theorem dX11_search_0 : decode cX11_search 0 = .ok (.aload_n 0, 1) := by decide +kernel
theorem dX11_search_1 : decode cX11_search 1 = .ok (.iload_n 1, 1) := by decide +kernel
theorem dX11_search_2 : decode cX11_search 2 = .ok (.invokevirtual 163, 3) := by decide +kernel
theorem dX11_search_5 : decode cX11_search 5 = .ok (.ifCond .ne 7, 3) := by decide +kernel
theorem dX11_search_8 : decode cX11_search 8 = .ok (.sipush (-1001), 3) := by decide +kernel
theorem dX11_search_11 : decode cX11_search 11 = .ok (.ireturn, 1) := by decide +kernel
theorem dX11_search_12 : decode cX11_search 12 = .ok (.aload_n 0, 1) := by decide +kernel
theorem dX11_search_13 : decode cX11_search 13 = .ok (.iload_n 1, 1) := by decide +kernel
theorem dX11_search_14 : decode cX11_search 14 = .ok (.invokevirtual 167, 3) := by decide +kernel
theorem dX11_search_17 : decode cX11_search 17 = .ok (.ifCond .lt 7, 3) := by decide +kernel
theorem dX11_search_20 : decode cX11_search 20 = .ok (.sipush (-1003), 3) := by decide +kernel
theorem dX11_search_23 : decode cX11_search 23 = .ok (.ireturn, 1) := by decide +kernel
theorem dX11_search_24 : decode cX11_search 24 = .ok (.aload_n 0, 1) := by decide +kernel
theorem dX11_search_25 : decode cX11_search 25 = .ok (.iload_n 1, 1) := by decide +kernel
theorem dX11_search_26 : decode cX11_search 26 = .ok (.invokevirtual 316, 3) := by decide +kernel
theorem dX11_search_29 : decode cX11_search 29 = .ok (.istore_n 3, 1) := by decide +kernel
theorem dX11_search_30 : decode cX11_search 30 = .ok (.iload_n 2, 1) := by decide +kernel
theorem dX11_search_31 : decode cX11_search 31 = .ok (.iconst (-1), 1) := by decide +kernel
theorem dX11_search_32 : decode cX11_search 32 = .ok (.if_icmp .ne 7, 3) := by decide +kernel
theorem dX11_search_35 : decode cX11_search 35 = .ok (.iload_n 3, 1) := by decide +kernel
theorem dX11_search_36 : decode cX11_search 36 = .ok (.goto 29, 3) := by decide +kernel
theorem dX11_search_39 : decode cX11_search 39 = .ok (.iload_n 2, 1) := by decide +kernel
theorem dX11_search_40 : decode cX11_search 40 = .ok (.i2l, 1) := by decide +kernel
theorem dX11_search_41 : decode cX11_search 41 = .ok (.lconst 0, 1) := by decide +kernel
theorem dX11_search_42 : decode cX11_search 42 = .ok (.aload_n 0, 1) := by decide +kernel
theorem dX11_search_43 : decode cX11_search 43 = .ok (.getfield 306, 3) := by decide +kernel
theorem dX11_search_46 : decode cX11_search 46 = .ok (.iconst 1, 1) := by decide +kernel
theorem dX11_search_47 : decode cX11_search 47 = .ok (.isub, 1) := by decide +kernel
theorem dX11_search_48 : decode cX11_search 48 = .ok (.i2l, 1) := by decide +kernel
theorem dX11_search_49 : decode cX11_search 49 = .ok (.invokestatic 78, 3) := by decide +kernel
theorem dX11_search_52 : decode cX11_search 52 = .ok (.ifCond .eq 12, 3) := by decide +kernel
theorem dX11_search_55 : decode cX11_search 55 = .ok (.aload_n 0, 1) := by decide +kernel
theorem dX11_search_56 : decode cX11_search 56 = .ok (.getfield 62, 3) := by decide +kernel
theorem dX11_search_59 : decode cX11_search 59 = .ok (.iload_n 2, 1) := by decide +kernel
theorem dX11_search_60 : decode cX11_search 60 = .ok (.iaload, 1) := by decide +kernel
theorem dX11_search_61 : decode cX11_search 61 = .ok (.goto 4, 3) := by decide +kernel
theorem dX11_search_64 : decode cX11_search 64 = .ok (.iconst (-1), 1) := by decide +kernel
theorem dX11_search_65 : decode cX11_search 65 = .ok (.ireturn, 1) := by decide +kernel
set_option maxHeartbeats 4000000 in
set_option maxRecDepth 100000 in
theorem kX11_search (l : Launch) (z : Nat) (D : va_G) (cA : Nat → ClassId) (a0 : Nat) (x1 : Int32) (x2 : Int32) (M : Mem) (K : Int32 → Mem → Prop) (h : PX11_search a0 x1 x2 M K) : Met l yX11_search (.code yX11_search cX11_search 4 (some .int) :: gtbl) ({ frames := 6, cells := 0, slots := 0, locals := 145 } : Room) (va_Pc [.ref a0, .int x1, .int x2] (xB z D cA M)) (va_Qi K (xWd z D cA) (xA z)) 0 0 (xA z) := by
  refine x_met (by decide +kernel) (Nat.le_of_ble_eq_true rfl) (L0 := [(0, .ref a0), (1, .int x1), (2, .int x2)]) rfl ?_
  intro p e s m args below meth c E hr hlk hnm
  have E : xE RX11 cX11_search 4 D cA p s m args c := E
  replace h := h.2
  refine x_aload_n E dX11_search_0 rfl 0 rfl ?_
  refine x_iload_n E dX11_search_1 rfl 1 rfl ?_
  refine x_callVi (T := TX11) (N := 32) (t := 12) (As := [.int x1]) E mlX11_163 inX11_isBook seX11_isBook rfl ⟨by decide, by decide⟩ (tX11_isBook h) (kX11_isBook l z D cA a0 x1 M _ h) rfl ⟨rfl, rfl⟩ ⟨Nat.le_of_ble_eq_true rfl, Nat.le_of_ble_eq_true rfl⟩ ⟨(Nat.le_of_ble_eq_true rfl), (Nat.le_of_ble_eq_true rfl)⟩ (Nat.le_of_ble_eq_true rfl) rfl dX11_search_2 (x_pure (fun r1 h => ?_))
  refine x_if_ne (tgt := 12) E dX11_search_5 (by decide) (fun c3 => ?_) (fun c3 => ?_)
  · replace h := xbr_f h c3
    clear c3
    refine x_aload_n E dX11_search_12 rfl 0 rfl ?_
    refine x_iload_n E dX11_search_13 rfl 1 rfl ?_
    refine x_callVi (T := TX11) (N := 32) (t := 12) (As := [.int x1]) E mlX11_167 inX11_placeOf seX11_placeOf rfl ⟨by decide, by decide⟩ (tX11_placeOf h) (kX11_placeOf l z D cA a0 x1 M _ h) rfl ⟨rfl, rfl⟩ ⟨Nat.le_of_ble_eq_true rfl, Nat.le_of_ble_eq_true rfl⟩ ⟨(Nat.le_of_ble_eq_true rfl), (Nat.le_of_ble_eq_true rfl)⟩ (Nat.le_of_ble_eq_true rfl) rfl dX11_search_14 (x_pure (fun r4 h => ?_))
    refine x_if_lt (tgt := 24) E dX11_search_17 (by decide) (fun c6 => ?_) (fun c6 => ?_)
    · replace h := xbr_t h c6
      clear c6
      refine x_aload_n E dX11_search_24 rfl 0 rfl ?_
      refine x_iload_n E dX11_search_25 rfl 1 rfl ?_
      refine x_callVi (T := TX11) (N := 32) (t := 12) (As := [.int x1]) E mlX11_316 inX11_findSearch seX11_findSearch rfl ⟨by decide, by decide⟩ (tX11_findSearch h) (kX11_findSearch l z D cA a0 x1 M _ h) rfl ⟨rfl, rfl⟩ ⟨Nat.le_of_ble_eq_true rfl, Nat.le_of_ble_eq_true rfl⟩ ⟨(Nat.le_of_ble_eq_true rfl), (Nat.le_of_ble_eq_true rfl)⟩ (Nat.le_of_ble_eq_true rfl) rfl dX11_search_26 (fun r7 M8 h => ?_)
      refine x_istore_n (L' := [(3, .int r7), (0, .ref a0), (1, .int x1), (2, .int x2)]) E dX11_search_29 rfl (by decide) rfl ?_
      refine x_iload_n E dX11_search_30 rfl 3 rfl ?_
      refine x_iconst (v := (J (-1))) E dX11_search_31 (by decide) ?_
      refine x_icmp_ne (tgt := 39) E dX11_search_32 (by decide) (fun c9 => ?_) (fun c9 => ?_)
      · replace h := xbr_f h c9
        clear c9
        refine x_iload_n E dX11_search_39 rfl 3 rfl ?_
        refine x_i2l E dX11_search_40 ?_
        refine x_lconst (v := (LJ 0)) E dX11_search_41 (by decide) ?_
        refine x_aload_n E dX11_search_42 rfl 1 rfl ?_
        obtain ⟨hT, v10, hv, h⟩ := h
        refine x_get E flX11_306 dX11_search_43 hT hv ?_
        clear hT hv
        refine x_iconst (v := (J 1)) E dX11_search_46 (by decide) ?_
        refine x_isub E dX11_search_47 ?_
        refine x_i2l E dX11_search_48 ?_
        refine x_callSi (As := [.long x2.toInt64, .long (LJ 0), .long (v10 - (J 1)).toInt64]) E mlX11_78 rfl stX11_in (kX11_in l z D cA x2.toInt64 (LJ 0) (v10 - (J 1)).toInt64 M8 _ h) rfl ⟨rfl, rfl⟩ ⟨Nat.le_of_ble_eq_true rfl, Nat.le_of_ble_eq_true rfl⟩ ⟨(Nat.le_of_ble_eq_true rfl), (Nat.le_of_ble_eq_true rfl)⟩ (Nat.le_of_ble_eq_true rfl) rfl dX11_search_49 (x_pure (fun r11 h => ?_))
        refine x_if_eq (tgt := 64) E dX11_search_52 (by decide) (fun c13 => ?_) (fun c13 => ?_)
        · replace h := xbr_t h c13
          clear c13
          refine x_iconst (v := (J (-1))) E dX11_search_64 (by decide) ?_
          exact x_iret E hr hlk dX11_search_65 h
        · replace h := xbr_f h c13
          clear c13
          refine x_aload_n E dX11_search_55 rfl 1 rfl ?_
          obtain ⟨hT, q14, hv, h⟩ := h
          refine x_get E flX11_62 dX11_search_56 hT hv ?_
          clear hT hv
          refine x_iload_n E dX11_search_59 rfl 3 rfl ?_
          obtain ⟨hT, hi, v15, hv, h⟩ := h
          refine x_iald E dX11_search_60 hT hi hv ?_
          clear hT hi hv
          refine x_goto (tgt := 65) E dX11_search_61 (by decide) ?_
          exact x_iret E hr hlk dX11_search_65 h
      · replace h := xbr_t h c9
        clear c9
        refine x_iload_n E dX11_search_35 rfl 0 rfl ?_
        refine x_goto (tgt := 65) E dX11_search_36 (by decide) ?_
        exact x_iret E hr hlk dX11_search_65 h
    · replace h := xbr_f h c6
      clear c6
      refine x_sipush (v := (J (-1003))) E dX11_search_20 (by decide) ?_
      exact x_iret E hr hlk dX11_search_23 h
  · replace h := xbr_t h c3
    clear c3
    refine x_sipush (v := (J (-1001))) E dX11_search_8 (by decide) ?_
    exact x_iret E hr hlk dX11_search_11 h
theorem dX11_seed_0 : decode cX11_seed 0 = .ok (.iload_n 1, 1) := by decide +kernel
theorem dX11_seed_1 : decode cX11_seed 1 = .ok (.ifCond .ge 7, 3) := by decide +kernel
theorem dX11_seed_4 : decode cX11_seed 4 = .ok (.sipush (-1002), 3) := by decide +kernel
theorem dX11_seed_7 : decode cX11_seed 7 = .ok (.ireturn, 1) := by decide +kernel
theorem dX11_seed_8 : decode cX11_seed 8 = .ok (.aload_n 0, 1) := by decide +kernel
theorem dX11_seed_9 : decode cX11_seed 9 = .ok (.getfield 319, 3) := by decide +kernel
theorem dX11_seed_12 : decode cX11_seed 12 = .ok (.istore_n 2, 1) := by decide +kernel
theorem dX11_seed_13 : decode cX11_seed 13 = .ok (.aload_n 0, 1) := by decide +kernel
theorem dX11_seed_14 : decode cX11_seed 14 = .ok (.iload_n 1, 1) := by decide +kernel
theorem dX11_seed_15 : decode cX11_seed 15 = .ok (.putfield 319, 3) := by decide +kernel
theorem dX11_seed_18 : decode cX11_seed 18 = .ok (.iload_n 2, 1) := by decide +kernel
theorem dX11_seed_19 : decode cX11_seed 19 = .ok (.ireturn, 1) := by decide +kernel
set_option maxHeartbeats 4000000 in
set_option maxRecDepth 100000 in
theorem kX11_seed (l : Launch) (z : Nat) (D : va_G) (cA : Nat → ClassId) (a0 : Nat) (x1 : Int32) (M : Mem) (K : Int32 → Mem → Prop) (h : PX11_seed a0 x1 M K) : Met l yX11_seed (.code yX11_seed cX11_seed 3 (some .int) :: gtbl) ({ frames := 0, cells := 0, slots := 0, locals := 0 } : Room) (va_Pc [.ref a0, .int x1] (xB z D cA M)) (va_Qi K (xWd z D cA) (xA z)) 0 0 (xA z) := by
  refine x_met (by decide +kernel) (Nat.le_of_ble_eq_true rfl) (L0 := [(0, .ref a0), (1, .int x1)]) rfl ?_
  intro p e s m args below meth c E hr hlk hnm
  have E : xE RX11 cX11_seed 3 D cA p s m args c := E
  replace h := h.2
  refine x_iload_n E dX11_seed_0 rfl 1 rfl ?_
  refine x_if_ge (tgt := 8) E dX11_seed_1 (by decide) (fun c1 => ?_) (fun c1 => ?_)
  · replace h := xbr_t h c1
    clear c1
    refine x_aload_n E dX11_seed_8 rfl 0 rfl ?_
    obtain ⟨hT, v2, hv, h⟩ := h
    refine x_get E flX11_319 dX11_seed_9 hT hv ?_
    clear hT hv
    refine x_istore_n (L' := [(2, .int v2), (0, .ref a0), (1, .int x1)]) E dX11_seed_12 rfl (by decide) rfl ?_
    refine x_aload_n E dX11_seed_13 rfl 1 rfl ?_
    refine x_iload_n E dX11_seed_14 rfl 2 rfl ?_
    obtain ⟨hT, h⟩ := h
    refine x_put E flX11_319 ⟨tyX11_ok, nmX11, rfl⟩ (by decide +kernel) rfl rfl dX11_seed_15 hT (fun M3 eM3 => ?_)
    replace h := h M3 eM3
    clear hT eM3
    refine x_iload_n E dX11_seed_18 rfl 0 rfl ?_
    exact x_iret E hr hlk dX11_seed_19 h
  · replace h := xbr_f h c1
    clear c1
    refine x_sipush (v := (J (-1002))) E dX11_seed_4 (by decide) ?_
    exact x_iret E hr hlk dX11_seed_7 h
theorem dX11_draw_0 : decode cX11_draw 0 = .ok (.aload_n 0, 1) := by decide +kernel
theorem dX11_draw_1 : decode cX11_draw 1 = .ok (.aload_n 0, 1) := by decide +kernel
theorem dX11_draw_2 : decode cX11_draw 2 = .ok (.getfield 319, 3) := by decide +kernel
theorem dX11_draw_5 : decode cX11_draw 5 = .ok (.i2l, 1) := by decide +kernel
theorem dX11_draw_6 : decode cX11_draw 6 = .ok (.ldc2_w 322, 3) := by decide +kernel
theorem dX11_draw_9 : decode cX11_draw 9 = .ok (.lmul, 1) := by decide +kernel
theorem dX11_draw_10 : decode cX11_draw 10 = .ok (.ldc2_w 324, 3) := by decide +kernel
theorem dX11_draw_13 : decode cX11_draw 13 = .ok (.ladd, 1) := by decide +kernel
theorem dX11_draw_14 : decode cX11_draw 14 = .ok (.ldc2_w 326, 3) := by decide +kernel
theorem dX11_draw_17 : decode cX11_draw 17 = .ok (.lrem, 1) := by decide +kernel
theorem dX11_draw_18 : decode cX11_draw 18 = .ok (.l2i, 1) := by decide +kernel
theorem dX11_draw_19 : decode cX11_draw 19 = .ok (.putfield 319, 3) := by decide +kernel
theorem dX11_draw_22 : decode cX11_draw 22 = .ok (.aload_n 0, 1) := by decide +kernel
theorem dX11_draw_23 : decode cX11_draw 23 = .ok (.getfield 319, 3) := by decide +kernel
theorem dX11_draw_26 : decode cX11_draw 26 = .ok (.ldc_w 328, 3) := by decide +kernel
theorem dX11_draw_29 : decode cX11_draw 29 = .ok (.idiv, 1) := by decide +kernel
theorem dX11_draw_30 : decode cX11_draw 30 = .ok (.iload_n 1, 1) := by decide +kernel
theorem dX11_draw_31 : decode cX11_draw 31 = .ok (.irem, 1) := by decide +kernel
theorem dX11_draw_32 : decode cX11_draw 32 = .ok (.ireturn, 1) := by decide +kernel
set_option maxHeartbeats 4000000 in
set_option maxRecDepth 100000 in
theorem kX11_draw (l : Launch) (z : Nat) (D : va_G) (cA : Nat → ClassId) (a0 : Nat) (x1 : Int32) (M : Mem) (K : Int32 → Mem → Prop) (h : PX11_draw a0 x1 M K) : Met l yX11_draw (.code yX11_draw cX11_draw 2 (some .int) :: gtbl) ({ frames := 0, cells := 0, slots := 0, locals := 0 } : Room) (va_Pc [.ref a0, .int x1] (xB z D cA M)) (va_Qi K (xWd z D cA) (xA z)) 0 0 (xA z) := by
  refine x_met (by decide +kernel) (Nat.le_of_ble_eq_true rfl) (L0 := [(0, .ref a0), (1, .int x1)]) rfl ?_
  intro p e s m args below meth c E hr hlk hnm
  have E : xE RX11 cX11_draw 2 D cA p s m args c := E
  replace h := h.2
  refine x_aload_n E dX11_draw_0 rfl 0 rfl ?_
  refine x_aload_n E dX11_draw_1 rfl 0 rfl ?_
  obtain ⟨hT, v1, hv, h⟩ := h
  refine x_get E flX11_319 dX11_draw_2 hT hv ?_
  clear hT hv
  refine x_i2l E dX11_draw_5 ?_
  refine x_ldc2 (v := (LJ 1103515245)) E (gw 1316 (by decide +kernel) rfl) dX11_draw_6 ?_
  refine x_lmul E dX11_draw_9 ?_
  refine x_ldc2 (v := (LJ 12345)) E (gw 1317 (by decide +kernel) rfl) dX11_draw_10 ?_
  refine x_ladd E dX11_draw_13 ?_
  refine x_ldc2 (v := (LJ 2147483648)) E (gw 1318 (by decide +kernel) rfl) dX11_draw_14 ?_
  refine x_lrem E dX11_draw_17 (by decide) ?_
  refine x_l2i E dX11_draw_18 ?_
  obtain ⟨hT, h⟩ := h
  refine x_put E flX11_319 ⟨tyX11_ok, nmX11, rfl⟩ (by decide +kernel) rfl rfl dX11_draw_19 hT (fun M2 eM2 => ?_)
  replace h := h M2 eM2
  clear hT eM2
  refine x_aload_n E dX11_draw_22 rfl 0 rfl ?_
  obtain ⟨hT, v3, hv, h⟩ := h
  refine x_get E flX11_319 dX11_draw_23 hT hv ?_
  clear hT hv
  refine x_ldcw (v := (J 65536)) E (gw 1319 (by decide +kernel) rfl) dX11_draw_26 ?_
  refine x_idiv E dX11_draw_29 (by decide) ?_
  refine x_iload_n E dX11_draw_30 rfl 1 rfl ?_
  obtain ⟨h0, h⟩ := h
  refine x_irem E dX11_draw_31 h0 ?_
  clear h0
  exact x_iret E hr hlk dX11_draw_32 h
theorem dX11_drawReading_0 : decode cX11_drawReading 0 = .ok (.aload_n 0, 1) := by decide +kernel
theorem dX11_drawReading_1 : decode cX11_drawReading 1 = .ok (.aload_n 0, 1) := by decide +kernel
theorem dX11_drawReading_2 : decode cX11_drawReading 2 = .ok (.invokevirtual 298, 3) := by decide +kernel
theorem dX11_drawReading_5 : decode cX11_drawReading 5 = .ok (.invokevirtual 329, 3) := by decide +kernel
theorem dX11_drawReading_8 : decode cX11_drawReading 8 = .ok (.istore_n 1, 1) := by decide +kernel
theorem dX11_drawReading_9 : decode cX11_drawReading 9 = .ok (.iconst 0, 1) := by decide +kernel
theorem dX11_drawReading_10 : decode cX11_drawReading 10 = .ok (.istore_n 2, 1) := by decide +kernel
theorem dX11_drawReading_11 : decode cX11_drawReading 11 = .ok (.aload_n 0, 1) := by decide +kernel
theorem dX11_drawReading_12 : decode cX11_drawReading 12 = .ok (.getfield 34, 3) := by decide +kernel
theorem dX11_drawReading_15 : decode cX11_drawReading 15 = .ok (.iconst 0, 1) := by decide +kernel
theorem dX11_drawReading_16 : decode cX11_drawReading 16 = .ok (.iaload, 1) := by decide +kernel
theorem dX11_drawReading_17 : decode cX11_drawReading 17 = .ok (.istore_n 3, 1) := by decide +kernel
theorem dX11_drawReading_18 : decode cX11_drawReading 18 = .ok (.iload_n 3, 1) := by decide +kernel
theorem dX11_drawReading_19 : decode cX11_drawReading 19 = .ok (.iload_n 1, 1) := by decide +kernel
theorem dX11_drawReading_20 : decode cX11_drawReading 20 = .ok (.if_icmp .gt 18, 3) := by decide +kernel
theorem dX11_drawReading_23 : decode cX11_drawReading 23 = .ok (.iinc 2 1, 3) := by decide +kernel
theorem dX11_drawReading_26 : decode cX11_drawReading 26 = .ok (.iload_n 3, 1) := by decide +kernel
theorem dX11_drawReading_27 : decode cX11_drawReading 27 = .ok (.aload_n 0, 1) := by decide +kernel
theorem dX11_drawReading_28 : decode cX11_drawReading 28 = .ok (.getfield 34, 3) := by decide +kernel
theorem dX11_drawReading_31 : decode cX11_drawReading 31 = .ok (.iload_n 2, 1) := by decide +kernel
theorem dX11_drawReading_32 : decode cX11_drawReading 32 = .ok (.iaload, 1) := by decide +kernel
theorem dX11_drawReading_33 : decode cX11_drawReading 33 = .ok (.iadd, 1) := by decide +kernel
theorem dX11_drawReading_34 : decode cX11_drawReading 34 = .ok (.istore_n 3, 1) := by decide +kernel
theorem dX11_drawReading_35 : decode cX11_drawReading 35 = .ok (.goto (-17), 3) := by decide +kernel
theorem dX11_drawReading_38 : decode cX11_drawReading 38 = .ok (.iload_n 2, 1) := by decide +kernel
theorem dX11_drawReading_39 : decode cX11_drawReading 39 = .ok (.ireturn, 1) := by decide +kernel
set_option maxHeartbeats 4000000 in
set_option maxRecDepth 100000 in
theorem kX11_drawReading (l : Launch) (z : Nat) (D : va_G) (cA : Nat → ClassId) (a0 : Nat) (M : Mem) (K : Int32 → Mem → Prop) (h : PX11_drawReading a0 M K) : Met l yX11_drawReading (.code yX11_drawReading cX11_drawReading 4 (some .int) :: gtbl) ({ frames := 1, cells := 0, slots := 0, locals := 22 } : Room) (va_Pc [.ref a0] (xB z D cA M)) (va_Qi K (xWd z D cA) (xA z)) 0 0 (xA z) := by
  refine x_met (by decide +kernel) (Nat.le_of_ble_eq_true rfl) (L0 := [(0, .ref a0)]) rfl ?_
  intro p e s m args below meth c E hr hlk hnm
  have E : xE RX11 cX11_drawReading 4 D cA p s m args c := E
  replace h := h.2
  refine x_aload_n E dX11_drawReading_0 rfl 0 rfl ?_
  refine x_aload_n E dX11_drawReading_1 rfl 0 rfl ?_
  refine x_callVi (T := TX11) (N := 32) (t := 12) (As := []) E mlX11_298 inX11_allHabits seX11_allHabits rfl ⟨by decide, by decide⟩ (tX11_allHabits h) (kX11_allHabits l z D cA a0 M _ h) rfl ⟨rfl, rfl⟩ ⟨Nat.le_of_ble_eq_true rfl, Nat.le_of_ble_eq_true rfl⟩ ⟨(Nat.le_of_ble_eq_true rfl), (Nat.le_of_ble_eq_true rfl)⟩ (Nat.le_of_ble_eq_true rfl) rfl dX11_drawReading_2 (x_pure (fun r1 h => ?_))
  refine x_callVi (T := TX11) (N := 32) (t := 12) (As := [.int r1]) E mlX11_329 inX11_draw seX11_draw rfl ⟨by decide, by decide⟩ (tX11_draw h) (kX11_draw l z D cA a0 r1 M _ h) rfl ⟨rfl, rfl⟩ ⟨Nat.le_of_ble_eq_true rfl, Nat.le_of_ble_eq_true rfl⟩ ⟨(Nat.le_of_ble_eq_true rfl), (Nat.le_of_ble_eq_true rfl)⟩ (Nat.le_of_ble_eq_true rfl) rfl dX11_drawReading_5 (fun r3 M4 h => ?_)
  refine x_istore_n (L' := [(1, .int r3), (0, .ref a0)]) E dX11_drawReading_8 rfl (by decide) rfl ?_
  refine x_iconst (v := (J 0)) E dX11_drawReading_9 (by decide) ?_
  refine x_istore_n (L' := [(2, .int (J 0)), (1, .int r3), (0, .ref a0)]) E dX11_drawReading_10 rfl (by decide) rfl ?_
  refine x_aload_n E dX11_drawReading_11 rfl 2 rfl ?_
  obtain ⟨hT, q5, hv, h⟩ := h
  refine x_get E flX11_34 dX11_drawReading_12 hT hv ?_
  clear hT hv
  refine x_iconst (v := (J 0)) E dX11_drawReading_15 (by decide) ?_
  obtain ⟨hT, hi, v6, hv, h⟩ := h
  refine x_iald E dX11_drawReading_16 hT hi hv ?_
  clear hT hi hv
  refine x_istore_n (L' := [(3, .int v6), (2, .int (J 0)), (1, .int r3), (0, .ref a0)]) E dX11_drawReading_17 rfl (by decide) rfl ?_
  refine x_sub (L' := [(0, .ref a0), (1, .int r3), (2, .int (J 0)), (3, .int v6)]) [3, 2, 1, 0] rfl ?_
  refine lp_sound (T := fun sv => xG p l e ({ frames := 1, cells := 0, slots := 0, locals := 22 } : Room) s m args below meth c (MQ below (va_Qi K (xWd z D cA) (xA z)) args s 0 0 (xA z)) 4 z D cA M4 (0) (0) 18 [(0, .ref a0), (1, .int r3), (2, .int sv.1), (3, .int sv.2)] []) ?_ ((J 0), v6) h
  clear h
  intro kc18 hk18 sv h
  obtain ⟨x2, x3⟩ := sv
  replace h : CX11_drawReading_18 K M4 a0 r3 kc18 x2 x3 := h
  try dsimp only
  refine x_iload_n E dX11_drawReading_18 rfl 3 rfl ?_
  refine x_iload_n E dX11_drawReading_19 rfl 1 rfl ?_
  refine x_icmp_gt (tgt := 38) E dX11_drawReading_20 (by decide) (fun c7 => ?_) (fun c7 => ?_)
  · replace h := xbr_t h c7
    clear c7
    refine x_iload_n E dX11_drawReading_38 rfl 2 rfl ?_
    exact x_iret E hr hlk dX11_drawReading_39 h
  · replace h := xbr_f h c7
    clear c7
    refine x_iinc (v := (x2 + (J 1))) (L' := [(2, .int (x2 + (J 1))), (0, .ref a0), (1, .int r3), (3, .int x3)]) E dX11_drawReading_23 2 rfl rfl (by decide) rfl ?_
    refine x_iload_n E dX11_drawReading_26 rfl 3 rfl ?_
    refine x_aload_n E dX11_drawReading_27 rfl 1 rfl ?_
    obtain ⟨hT, q8, hv, h⟩ := h
    refine x_get E flX11_34 dX11_drawReading_28 hT hv ?_
    clear hT hv
    refine x_iload_n E dX11_drawReading_31 rfl 0 rfl ?_
    obtain ⟨hT, hi, v9, hv, h⟩ := h
    refine x_iald E dX11_drawReading_32 hT hi hv ?_
    clear hT hi hv
    refine x_iadd E dX11_drawReading_33 ?_
    obtain ⟨y10, ey10, h⟩ := h
    refine x_top (v := .int y10) (congrArg _ ey10) ?_
    clear ey10
    refine x_istore_n (L' := [(3, .int y10), (2, .int (x2 + (J 1))), (0, .ref a0), (1, .int r3)]) E dX11_drawReading_34 rfl (by decide) rfl ?_
    refine x_goto (tgt := 18) E dX11_drawReading_35 (by decide) ?_
    refine x_sub (L' := [(0, .ref a0), (1, .int r3), (2, .int (x2 + (J 1))), (3, .int y10)]) [2, 3, 1, 0] rfl ?_
    exact hk18 ((x2 + (J 1)), y10) h
theorem dX11_shelve_0 : decode cX11_shelve 0 = .ok (.aload_n 0, 1) := by decide +kernel
theorem dX11_shelve_1 : decode cX11_shelve 1 = .ok (.iload_n 1, 1) := by decide +kernel
theorem dX11_shelve_2 : decode cX11_shelve 2 = .ok (.invokevirtual 293, 3) := by decide +kernel
theorem dX11_shelve_5 : decode cX11_shelve 5 = .ok (.ifCond .ne 7, 3) := by decide +kernel
theorem dX11_shelve_8 : decode cX11_shelve 8 = .ok (.sipush (-1002), 3) := by decide +kernel
theorem dX11_shelve_11 : decode cX11_shelve 11 = .ok (.ireturn, 1) := by decide +kernel
theorem dX11_shelve_12 : decode cX11_shelve 12 = .ok (.aload_n 0, 1) := by decide +kernel
theorem dX11_shelve_13 : decode cX11_shelve 13 = .ok (.invokevirtual 298, 3) := by decide +kernel
theorem dX11_shelve_16 : decode cX11_shelve 16 = .ok (.ifCond .ne 7, 3) := by decide +kernel
theorem dX11_shelve_19 : decode cX11_shelve 19 = .ok (.sipush (-1003), 3) := by decide +kernel
theorem dX11_shelve_22 : decode cX11_shelve 22 = .ok (.ireturn, 1) := by decide +kernel
theorem dX11_shelve_23 : decode cX11_shelve 23 = .ok (.iconst 0, 1) := by decide +kernel
theorem dX11_shelve_24 : decode cX11_shelve 24 = .ok (.istore_n 2, 1) := by decide +kernel
theorem dX11_shelve_25 : decode cX11_shelve 25 = .ok (.iconst 0, 1) := by decide +kernel
theorem dX11_shelve_26 : decode cX11_shelve 26 = .ok (.istore_n 3, 1) := by decide +kernel
theorem dX11_shelve_27 : decode cX11_shelve 27 = .ok (.iload_n 3, 1) := by decide +kernel
theorem dX11_shelve_28 : decode cX11_shelve 28 = .ok (.aload_n 0, 1) := by decide +kernel
theorem dX11_shelve_29 : decode cX11_shelve 29 = .ok (.getfield 75, 3) := by decide +kernel
theorem dX11_shelve_32 : decode cX11_shelve 32 = .ok (.if_icmp .ge 62, 3) := by decide +kernel
theorem dX11_shelve_35 : decode cX11_shelve 35 = .ok (.iload_n 1, 1) := by decide +kernel
theorem dX11_shelve_36 : decode cX11_shelve 36 = .ok (.iload_n 3, 1) := by decide +kernel
theorem dX11_shelve_37 : decode cX11_shelve 37 = .ok (.invokestatic 276, 3) := by decide +kernel
theorem dX11_shelve_40 : decode cX11_shelve 40 = .ok (.ifCond .eq 48, 3) := by decide +kernel
theorem dX11_shelve_43 : decode cX11_shelve 43 = .ok (.aload_n 0, 1) := by decide +kernel
theorem dX11_shelve_44 : decode cX11_shelve 44 = .ok (.iload_n 3, 1) := by decide +kernel
theorem dX11_shelve_45 : decode cX11_shelve 45 = .ok (.invokevirtual 167, 3) := by decide +kernel
theorem dX11_shelve_48 : decode cX11_shelve 48 = .ok (.ifCond .ge 40, 3) := by decide +kernel
theorem dX11_shelve_51 : decode cX11_shelve 51 = .ok (.aload_n 0, 1) := by decide +kernel
theorem dX11_shelve_52 : decode cX11_shelve 52 = .ok (.invokevirtual 258, 3) := by decide +kernel
theorem dX11_shelve_55 : decode cX11_shelve 55 = .ok (.aload_n 0, 1) := by decide +kernel
theorem dX11_shelve_56 : decode cX11_shelve 56 = .ok (.iload_n 3, 1) := by decide +kernel
theorem dX11_shelve_57 : decode cX11_shelve 57 = .ok (.aload_n 0, 1) := by decide +kernel
theorem dX11_shelve_58 : decode cX11_shelve 58 = .ok (.invokevirtual 332, 3) := by decide +kernel
theorem dX11_shelve_61 : decode cX11_shelve 61 = .ok (.invokevirtual 261, 3) := by decide +kernel
theorem dX11_shelve_64 : decode cX11_shelve 64 = .ok (.istore 4, 2) := by decide +kernel
theorem dX11_shelve_66 : decode cX11_shelve 66 = .ok (.iload_n 2, 1) := by decide +kernel
theorem dX11_shelve_67 : decode cX11_shelve 67 = .ok (.iload 4, 2) := by decide +kernel
theorem dX11_shelve_69 : decode cX11_shelve 69 = .ok (.ifCond .eq 7, 3) := by decide +kernel
theorem dX11_shelve_72 : decode cX11_shelve 72 = .ok (.iconst 1, 1) := by decide +kernel
theorem dX11_shelve_73 : decode cX11_shelve 73 = .ok (.goto 4, 3) := by decide +kernel
theorem dX11_shelve_76 : decode cX11_shelve 76 = .ok (.iconst 0, 1) := by decide +kernel
theorem dX11_shelve_77 : decode cX11_shelve 77 = .ok (.iadd, 1) := by decide +kernel
theorem dX11_shelve_78 : decode cX11_shelve 78 = .ok (.istore_n 2, 1) := by decide +kernel
theorem dX11_shelve_79 : decode cX11_shelve 79 = .ok (.iload 4, 2) := by decide +kernel
theorem dX11_shelve_81 : decode cX11_shelve 81 = .ok (.ifCond .ne 7, 3) := by decide +kernel
theorem dX11_shelve_84 : decode cX11_shelve 84 = .ok (.aload_n 0, 1) := by decide +kernel
theorem dX11_shelve_85 : decode cX11_shelve 85 = .ok (.invokevirtual 264, 3) := by decide +kernel
theorem dX11_shelve_88 : decode cX11_shelve 88 = .ok (.iinc 3 1, 3) := by decide +kernel
theorem dX11_shelve_91 : decode cX11_shelve 91 = .ok (.goto (-64), 3) := by decide +kernel
theorem dX11_shelve_94 : decode cX11_shelve 94 = .ok (.iload_n 2, 1) := by decide +kernel
theorem dX11_shelve_95 : decode cX11_shelve 95 = .ok (.ireturn, 1) := by decide +kernel
set_option maxHeartbeats 4000000 in
set_option maxRecDepth 100000 in
theorem kX11_shelve (l : Launch) (z : Nat) (D : va_G) (cA : Nat → ClassId) (a0 : Nat) (x1 : Int32) (M : Mem) (K : Int32 → Mem → Prop) (h : PX11_shelve a0 x1 M K) : Met l yX11_shelve (.code yX11_shelve cX11_shelve 5 (some .int) :: gtbl) ({ frames := 5, cells := 0, slots := 0, locals := 120 } : Room) (va_Pc [.ref a0, .int x1] (xB z D cA M)) (va_Qi K (xWd z D cA) (xA z)) 0 0 (xA z) := by
  refine x_met (by decide +kernel) (Nat.le_of_ble_eq_true rfl) (L0 := [(0, .ref a0), (1, .int x1)]) rfl ?_
  intro p e s m args below meth c E hr hlk hnm
  have E : xE RX11 cX11_shelve 5 D cA p s m args c := E
  replace h := h.2
  refine x_aload_n E dX11_shelve_0 rfl 0 rfl ?_
  refine x_iload_n E dX11_shelve_1 rfl 1 rfl ?_
  refine x_callVi (T := TX11) (N := 32) (t := 12) (As := [.int x1]) E mlX11_293 inX11_areBooks seX11_areBooks rfl ⟨by decide, by decide⟩ (tX11_areBooks h) (kX11_areBooks l z D cA a0 x1 M _ h) rfl ⟨rfl, rfl⟩ ⟨Nat.le_of_ble_eq_true rfl, Nat.le_of_ble_eq_true rfl⟩ ⟨(Nat.le_of_ble_eq_true rfl), (Nat.le_of_ble_eq_true rfl)⟩ (Nat.le_of_ble_eq_true rfl) rfl dX11_shelve_2 (x_pure (fun r1 h => ?_))
  refine x_if_ne (tgt := 12) E dX11_shelve_5 (by decide) (fun c3 => ?_) (fun c3 => ?_)
  · replace h := xbr_f h c3
    clear c3
    refine x_aload_n E dX11_shelve_12 rfl 0 rfl ?_
    refine x_callVi (T := TX11) (N := 32) (t := 12) (As := []) E mlX11_298 inX11_allHabits seX11_allHabits rfl ⟨by decide, by decide⟩ (tX11_allHabits h) (kX11_allHabits l z D cA a0 M _ h) rfl ⟨rfl, rfl⟩ ⟨Nat.le_of_ble_eq_true rfl, Nat.le_of_ble_eq_true rfl⟩ ⟨(Nat.le_of_ble_eq_true rfl), (Nat.le_of_ble_eq_true rfl)⟩ (Nat.le_of_ble_eq_true rfl) rfl dX11_shelve_13 (x_pure (fun r4 h => ?_))
    refine x_if_ne (tgt := 23) E dX11_shelve_16 (by decide) (fun c6 => ?_) (fun c6 => ?_)
    · replace h := xbr_f h c6
      clear c6
      refine x_iconst (v := (J 0)) E dX11_shelve_23 (by decide) ?_
      refine x_istore_n (L' := [(2, .int (J 0)), (0, .ref a0), (1, .int x1)]) E dX11_shelve_24 rfl (by decide) rfl ?_
      refine x_iconst (v := (J 0)) E dX11_shelve_25 (by decide) ?_
      refine x_istore_n (L' := [(3, .int (J 0)), (2, .int (J 0)), (0, .ref a0), (1, .int x1)]) E dX11_shelve_26 rfl (by decide) rfl ?_
      refine x_sub (L' := [(0, .ref a0), (1, .int x1), (2, .int (J 0)), (3, .int (J 0))]) [2, 3, 1, 0] rfl ?_
      refine lp_sound (T := fun sv => xG p l e ({ frames := 5, cells := 0, slots := 0, locals := 120 } : Room) s m args below meth c (MQ below (va_Qi K (xWd z D cA) (xA z)) args s 0 0 (xA z)) 5 z D cA sv.1 (0) (0) 27 [(0, .ref a0), (1, .int x1), (2, .int sv.2.1), (3, .int sv.2.2)] []) ?_ (M, (J 0), (J 0)) h
      clear h
      intro kc27 hk27 sv h
      obtain ⟨M, x2, x3⟩ := sv
      replace h : CX11_shelve_27 K a0 x1 kc27 M x2 x3 := h
      try dsimp only
      have hJ77 : ∀ (M : Mem) (j3 : Int32) (j4 : Int32) (s0 : Int32) (s1 : Int32), JX11_shelve_77 K kc27 M a0 x1 j3 j4 s0 s1 → xG p l e ({ frames := 5, cells := 0, slots := 0, locals := 120 } : Room) s m args below meth c (MQ below (va_Qi K (xWd z D cA) (xA z)) args s 0 0 (xA z)) 5 z D cA M (0) (0) 77 [(0, .ref a0), (1, .int x1), (3, .int j3), (4, .int j4)] [.int s0, .int s1] := by
        intro M j3 j4 s0 s1 h
        refine x_iadd E dX11_shelve_77 ?_
        obtain ⟨y22, ey22, h⟩ := h
        refine x_top (v := .int y22) (congrArg _ ey22) ?_
        clear ey22
        refine x_istore_n (L' := [(2, .int y22), (0, .ref a0), (1, .int x1), (3, .int j3), (4, .int j4)]) E dX11_shelve_78 rfl (by decide) rfl ?_
        refine x_iload E dX11_shelve_79 4 rfl ?_
        refine x_if_ne (tgt := 88) E dX11_shelve_81 (by decide) (fun c23 => ?_) (fun c23 => ?_)
        · replace h := xbr_f h c23
          clear c23
          refine x_iinc (v := (j3 + (J 1))) (L' := [(3, .int (j3 + (J 1))), (2, .int y22), (0, .ref a0), (1, .int x1), (4, .int j4)]) E dX11_shelve_88 3 rfl rfl (by decide) rfl ?_
          refine x_goto (tgt := 27) E dX11_shelve_91 (by decide) ?_
          refine x_sub (L' := [(0, .ref a0), (1, .int x1), (2, .int y22), (3, .int (j3 + (J 1)))]) [2, 3, 1, 0] rfl ?_
          exact hk27 (M, y22, (j3 + (J 1))) h
        · replace h := xbr_t h c23
          clear c23
          refine x_aload_n E dX11_shelve_84 rfl 1 rfl ?_
          refine x_callVv (T := TX11) (N := 32) (t := 12) (As := []) E mlX11_264 inX11_back seX11_back rfl ⟨by decide, by decide⟩ (tX11_back h) (kX11_back l z D cA a0 M _ h) rfl ⟨rfl, rfl⟩ ⟨Nat.le_of_ble_eq_true rfl, Nat.le_of_ble_eq_true rfl⟩ ⟨(Nat.le_of_ble_eq_true rfl), (Nat.le_of_ble_eq_true rfl)⟩ (Nat.le_of_ble_eq_true rfl) rfl dX11_shelve_85 (fun M25 h => ?_)
          refine x_iinc (v := (j3 + (J 1))) (L' := [(3, .int (j3 + (J 1))), (2, .int y22), (0, .ref a0), (1, .int x1), (4, .int j4)]) E dX11_shelve_88 3 rfl rfl (by decide) rfl ?_
          refine x_goto (tgt := 27) E dX11_shelve_91 (by decide) ?_
          refine x_sub (L' := [(0, .ref a0), (1, .int x1), (2, .int y22), (3, .int (j3 + (J 1)))]) [2, 3, 1, 0] rfl ?_
          exact hk27 (M25, y22, (j3 + (J 1))) h
      refine x_iload_n E dX11_shelve_27 rfl 3 rfl ?_
      refine x_aload_n E dX11_shelve_28 rfl 0 rfl ?_
      obtain ⟨hT, v7, hv, h⟩ := h
      refine x_get E flX11_75 dX11_shelve_29 hT hv ?_
      clear hT hv
      refine x_icmp_ge (tgt := 94) E dX11_shelve_32 (by decide) (fun c8 => ?_) (fun c8 => ?_)
      · replace h := xbr_t h c8
        clear c8
        refine x_iload_n E dX11_shelve_94 rfl 2 rfl ?_
        exact x_iret E hr hlk dX11_shelve_95 h
      · replace h := xbr_f h c8
        clear c8
        refine x_iload_n E dX11_shelve_35 rfl 1 rfl ?_
        refine x_iload_n E dX11_shelve_36 rfl 3 rfl ?_
        refine x_callSi (As := [.int x1, .int x3]) E mlX11_276 rfl stX11_has (kX11_has l z D cA x1 x3 M _ h) rfl ⟨rfl, rfl⟩ ⟨Nat.le_of_ble_eq_true rfl, Nat.le_of_ble_eq_true rfl⟩ ⟨(Nat.le_of_ble_eq_true rfl), (Nat.le_of_ble_eq_true rfl)⟩ (Nat.le_of_ble_eq_true rfl) rfl dX11_shelve_37 (x_pure (fun r9 h => ?_))
        refine x_if_eq (tgt := 88) E dX11_shelve_40 (by decide) (fun c11 => ?_) (fun c11 => ?_)
        · replace h := xbr_t h c11
          clear c11
          refine x_iinc (v := (x3 + (J 1))) (L' := [(3, .int (x3 + (J 1))), (0, .ref a0), (1, .int x1), (2, .int x2)]) E dX11_shelve_88 3 rfl rfl (by decide) rfl ?_
          refine x_goto (tgt := 27) E dX11_shelve_91 (by decide) ?_
          refine x_sub (L' := [(0, .ref a0), (1, .int x1), (2, .int x2), (3, .int (x3 + (J 1)))]) [1, 2, 3, 0] rfl ?_
          exact hk27 (M, x2, (x3 + (J 1))) h
        · replace h := xbr_f h c11
          clear c11
          refine x_aload_n E dX11_shelve_43 rfl 0 rfl ?_
          refine x_iload_n E dX11_shelve_44 rfl 3 rfl ?_
          refine x_callVi (T := TX11) (N := 32) (t := 12) (As := [.int x3]) E mlX11_167 inX11_placeOf seX11_placeOf rfl ⟨by decide, by decide⟩ (tX11_placeOf h) (kX11_placeOf l z D cA a0 x3 M _ h) rfl ⟨rfl, rfl⟩ ⟨Nat.le_of_ble_eq_true rfl, Nat.le_of_ble_eq_true rfl⟩ ⟨(Nat.le_of_ble_eq_true rfl), (Nat.le_of_ble_eq_true rfl)⟩ (Nat.le_of_ble_eq_true rfl) rfl dX11_shelve_45 (x_pure (fun r12 h => ?_))
          refine x_if_ge (tgt := 88) E dX11_shelve_48 (by decide) (fun c14 => ?_) (fun c14 => ?_)
          · replace h := xbr_t h c14
            clear c14
            refine x_iinc (v := (x3 + (J 1))) (L' := [(3, .int (x3 + (J 1))), (0, .ref a0), (1, .int x1), (2, .int x2)]) E dX11_shelve_88 3 rfl rfl (by decide) rfl ?_
            refine x_goto (tgt := 27) E dX11_shelve_91 (by decide) ?_
            refine x_sub (L' := [(0, .ref a0), (1, .int x1), (2, .int x2), (3, .int (x3 + (J 1)))]) [1, 2, 3, 0] rfl ?_
            exact hk27 (M, x2, (x3 + (J 1))) h
          · replace h := xbr_f h c14
            clear c14
            refine x_aload_n E dX11_shelve_51 rfl 0 rfl ?_
            refine x_callVv (T := TX11) (N := 32) (t := 12) (As := []) E mlX11_258 inX11_save seX11_save rfl ⟨by decide, by decide⟩ (tX11_save h) (kX11_save l z D cA a0 M _ h) rfl ⟨rfl, rfl⟩ ⟨Nat.le_of_ble_eq_true rfl, Nat.le_of_ble_eq_true rfl⟩ ⟨(Nat.le_of_ble_eq_true rfl), (Nat.le_of_ble_eq_true rfl)⟩ (Nat.le_of_ble_eq_true rfl) rfl dX11_shelve_52 (fun M16 h => ?_)
            refine x_aload_n E dX11_shelve_55 rfl 0 rfl ?_
            refine x_iload_n E dX11_shelve_56 rfl 3 rfl ?_
            refine x_aload_n E dX11_shelve_57 rfl 0 rfl ?_
            refine x_callVi (T := TX11) (N := 32) (t := 12) (As := []) E mlX11_332 inX11_drawReading seX11_drawReading rfl ⟨by decide, by decide⟩ (tX11_drawReading h) (kX11_drawReading l z D cA a0 M16 _ h) rfl ⟨rfl, rfl⟩ ⟨Nat.le_of_ble_eq_true rfl, Nat.le_of_ble_eq_true rfl⟩ ⟨(Nat.le_of_ble_eq_true rfl), (Nat.le_of_ble_eq_true rfl)⟩ (Nat.le_of_ble_eq_true rfl) rfl dX11_shelve_58 (fun r17 M18 h => ?_)
            refine x_callVi (T := TX11) (N := 32) (t := 12) (As := [.int x3, .int r17]) E mlX11_261 inX11_putNow seX11_putNow rfl ⟨by decide, by decide⟩ (tX11_putNow h) (kX11_putNow l z D cA a0 x3 r17 M18 _ h) rfl ⟨rfl, rfl⟩ ⟨Nat.le_of_ble_eq_true rfl, Nat.le_of_ble_eq_true rfl⟩ ⟨(Nat.le_of_ble_eq_true rfl), (Nat.le_of_ble_eq_true rfl)⟩ (Nat.le_of_ble_eq_true rfl) rfl dX11_shelve_61 (fun r19 M20 h => ?_)
            refine x_istore (L' := [(4, .int r19), (0, .ref a0), (1, .int x1), (2, .int x2), (3, .int x3)]) E dX11_shelve_64 (by decide) rfl ?_
            refine x_iload_n E dX11_shelve_66 rfl 3 rfl ?_
            refine x_iload E dX11_shelve_67 0 rfl ?_
            refine x_if_eq (tgt := 76) E dX11_shelve_69 (by decide) (fun c21 => ?_) (fun c21 => ?_)
            · replace h := xbr_t h c21
              clear c21
              refine x_iconst (v := (J 0)) E dX11_shelve_76 (by decide) ?_
              refine x_sub (L' := [(0, .ref a0), (1, .int x1), (3, .int x3), (4, .int r19)]) [1, 2, 4, 0] rfl ?_
              exact hJ77 M20 x3 r19 (J 0) x2 h
            · replace h := xbr_f h c21
              clear c21
              refine x_iconst (v := (J 1)) E dX11_shelve_72 (by decide) ?_
              refine x_goto (tgt := 77) E dX11_shelve_73 (by decide) ?_
              refine x_sub (L' := [(0, .ref a0), (1, .int x1), (3, .int x3), (4, .int r19)]) [1, 2, 4, 0] rfl ?_
              exact hJ77 M20 x3 r19 (J 1) x2 h
    · replace h := xbr_t h c6
      clear c6
      refine x_sipush (v := (J (-1003))) E dX11_shelve_19 (by decide) ?_
      exact x_iret E hr hlk dX11_shelve_22 h
  · replace h := xbr_t h c3
    clear c3
    refine x_sipush (v := (J (-1002))) E dX11_shelve_8 (by decide) ?_
    exact x_iret E hr hlk dX11_shelve_11 h
theorem dX11_keep_0 : decode cX11_keep 0 = .ok (.iload_n 1, 1) := by decide +kernel
theorem dX11_keep_1 : decode cX11_keep 1 = .ok (.i2l, 1) := by decide +kernel
theorem dX11_keep_2 : decode cX11_keep 2 = .ok (.lconst 0, 1) := by decide +kernel
theorem dX11_keep_3 : decode cX11_keep 3 = .ok (.lconst 1, 1) := by decide +kernel
theorem dX11_keep_4 : decode cX11_keep 4 = .ok (.invokestatic 78, 3) := by decide +kernel
theorem dX11_keep_7 : decode cX11_keep 7 = .ok (.ifCond .ne 7, 3) := by decide +kernel
theorem dX11_keep_10 : decode cX11_keep 10 = .ok (.sipush (-1001), 3) := by decide +kernel
theorem dX11_keep_13 : decode cX11_keep 13 = .ok (.ireturn, 1) := by decide +kernel
theorem dX11_keep_14 : decode cX11_keep 14 = .ok (.bipush 40, 2) := by decide +kernel
theorem dX11_keep_16 : decode cX11_keep 16 = .ok (.iload_n 1, 1) := by decide +kernel
theorem dX11_keep_17 : decode cX11_keep 17 = .ok (.imul, 1) := by decide +kernel
theorem dX11_keep_18 : decode cX11_keep 18 = .ok (.istore_n 2, 1) := by decide +kernel
theorem dX11_keep_19 : decode cX11_keep 19 = .ok (.aload_n 0, 1) := by decide +kernel
theorem dX11_keep_20 : decode cX11_keep 20 = .ok (.getfield 68, 3) := by decide +kernel
theorem dX11_keep_23 : decode cX11_keep 23 = .ok (.iload_n 2, 1) := by decide +kernel
theorem dX11_keep_24 : decode cX11_keep 24 = .ok (.aload_n 0, 1) := by decide +kernel
theorem dX11_keep_25 : decode cX11_keep 25 = .ok (.getfield 222, 3) := by decide +kernel
theorem dX11_keep_28 : decode cX11_keep 28 = .ok (.iastore, 1) := by decide +kernel
theorem dX11_keep_29 : decode cX11_keep 29 = .ok (.aload_n 0, 1) := by decide +kernel
theorem dX11_keep_30 : decode cX11_keep 30 = .ok (.getfield 68, 3) := by decide +kernel
theorem dX11_keep_33 : decode cX11_keep 33 = .ok (.iload_n 2, 1) := by decide +kernel
theorem dX11_keep_34 : decode cX11_keep 34 = .ok (.iconst 1, 1) := by decide +kernel
theorem dX11_keep_35 : decode cX11_keep 35 = .ok (.iadd, 1) := by decide +kernel
theorem dX11_keep_36 : decode cX11_keep 36 = .ok (.aload_n 0, 1) := by decide +kernel
theorem dX11_keep_37 : decode cX11_keep 37 = .ok (.getfield 225, 3) := by decide +kernel
theorem dX11_keep_40 : decode cX11_keep 40 = .ok (.iastore, 1) := by decide +kernel
theorem dX11_keep_41 : decode cX11_keep 41 = .ok (.aload_n 0, 1) := by decide +kernel
theorem dX11_keep_42 : decode cX11_keep 42 = .ok (.getfield 68, 3) := by decide +kernel
theorem dX11_keep_45 : decode cX11_keep 45 = .ok (.iload_n 2, 1) := by decide +kernel
theorem dX11_keep_46 : decode cX11_keep 46 = .ok (.iconst 2, 1) := by decide +kernel
theorem dX11_keep_47 : decode cX11_keep 47 = .ok (.iadd, 1) := by decide +kernel
theorem dX11_keep_48 : decode cX11_keep 48 = .ok (.aload_n 0, 1) := by decide +kernel
theorem dX11_keep_49 : decode cX11_keep 49 = .ok (.getfield 319, 3) := by decide +kernel
theorem dX11_keep_52 : decode cX11_keep 52 = .ok (.iastore, 1) := by decide +kernel
theorem dX11_keep_53 : decode cX11_keep 53 = .ok (.iconst 0, 1) := by decide +kernel
theorem dX11_keep_54 : decode cX11_keep 54 = .ok (.istore_n 3, 1) := by decide +kernel
theorem dX11_keep_55 : decode cX11_keep 55 = .ok (.iload_n 3, 1) := by decide +kernel
theorem dX11_keep_56 : decode cX11_keep 56 = .ok (.bipush 8, 2) := by decide +kernel
theorem dX11_keep_58 : decode cX11_keep 58 = .ok (.if_icmp .ge 25, 3) := by decide +kernel
theorem dX11_keep_61 : decode cX11_keep 61 = .ok (.aload_n 0, 1) := by decide +kernel
theorem dX11_keep_62 : decode cX11_keep 62 = .ok (.getfield 68, 3) := by decide +kernel
theorem dX11_keep_65 : decode cX11_keep 65 = .ok (.iload_n 2, 1) := by decide +kernel
theorem dX11_keep_66 : decode cX11_keep 66 = .ok (.iconst 3, 1) := by decide +kernel
theorem dX11_keep_67 : decode cX11_keep 67 = .ok (.iadd, 1) := by decide +kernel
theorem dX11_keep_68 : decode cX11_keep 68 = .ok (.iload_n 3, 1) := by decide +kernel
theorem dX11_keep_69 : decode cX11_keep 69 = .ok (.iadd, 1) := by decide +kernel
theorem dX11_keep_70 : decode cX11_keep 70 = .ok (.aload_n 0, 1) := by decide +kernel
theorem dX11_keep_71 : decode cX11_keep 71 = .ok (.getfield 31, 3) := by decide +kernel
theorem dX11_keep_74 : decode cX11_keep 74 = .ok (.iload_n 3, 1) := by decide +kernel
theorem dX11_keep_75 : decode cX11_keep 75 = .ok (.iaload, 1) := by decide +kernel
theorem dX11_keep_76 : decode cX11_keep 76 = .ok (.iastore, 1) := by decide +kernel
theorem dX11_keep_77 : decode cX11_keep 77 = .ok (.iinc 3 1, 3) := by decide +kernel
theorem dX11_keep_80 : decode cX11_keep 80 = .ok (.goto (-25), 3) := by decide +kernel
theorem dX11_keep_83 : decode cX11_keep 83 = .ok (.iconst 0, 1) := by decide +kernel
theorem dX11_keep_84 : decode cX11_keep 84 = .ok (.istore_n 3, 1) := by decide +kernel
theorem dX11_keep_85 : decode cX11_keep 85 = .ok (.iload_n 3, 1) := by decide +kernel
theorem dX11_keep_86 : decode cX11_keep 86 = .ok (.bipush 24, 2) := by decide +kernel
theorem dX11_keep_88 : decode cX11_keep 88 = .ok (.if_icmp .ge 26, 3) := by decide +kernel
theorem dX11_keep_91 : decode cX11_keep 91 = .ok (.aload_n 0, 1) := by decide +kernel
theorem dX11_keep_92 : decode cX11_keep 92 = .ok (.getfield 68, 3) := by decide +kernel
theorem dX11_keep_95 : decode cX11_keep 95 = .ok (.iload_n 2, 1) := by decide +kernel
theorem dX11_keep_96 : decode cX11_keep 96 = .ok (.bipush 11, 2) := by decide +kernel
theorem dX11_keep_98 : decode cX11_keep 98 = .ok (.iadd, 1) := by decide +kernel
theorem dX11_keep_99 : decode cX11_keep 99 = .ok (.iload_n 3, 1) := by decide +kernel
theorem dX11_keep_100 : decode cX11_keep 100 = .ok (.iadd, 1) := by decide +kernel
theorem dX11_keep_101 : decode cX11_keep 101 = .ok (.aload_n 0, 1) := by decide +kernel
theorem dX11_keep_102 : decode cX11_keep 102 = .ok (.getfield 28, 3) := by decide +kernel
theorem dX11_keep_105 : decode cX11_keep 105 = .ok (.iload_n 3, 1) := by decide +kernel
theorem dX11_keep_106 : decode cX11_keep 106 = .ok (.iaload, 1) := by decide +kernel
theorem dX11_keep_107 : decode cX11_keep 107 = .ok (.iastore, 1) := by decide +kernel
theorem dX11_keep_108 : decode cX11_keep 108 = .ok (.iinc 3 1, 3) := by decide +kernel
theorem dX11_keep_111 : decode cX11_keep 111 = .ok (.goto (-26), 3) := by decide +kernel
theorem dX11_keep_114 : decode cX11_keep 114 = .ok (.aload_n 0, 1) := by decide +kernel
theorem dX11_keep_115 : decode cX11_keep 115 = .ok (.getfield 71, 3) := by decide +kernel
theorem dX11_keep_118 : decode cX11_keep 118 = .ok (.iload_n 1, 1) := by decide +kernel
theorem dX11_keep_119 : decode cX11_keep 119 = .ok (.iconst 1, 1) := by decide +kernel
theorem dX11_keep_120 : decode cX11_keep 120 = .ok (.bastore, 1) := by decide +kernel
theorem dX11_keep_121 : decode cX11_keep 121 = .ok (.iconst 1, 1) := by decide +kernel
theorem dX11_keep_122 : decode cX11_keep 122 = .ok (.ireturn, 1) := by decide +kernel
set_option maxHeartbeats 4000000 in
set_option maxRecDepth 100000 in
theorem kX11_keep (l : Launch) (z : Nat) (D : va_G) (cA : Nat → ClassId) (a0 : Nat) (x1 : Int32) (M : Mem) (K : Int32 → Mem → Prop) (h : PX11_keep a0 x1 M K) : Met l yX11_keep (.code yX11_keep cX11_keep 4 (some .int) :: gtbl) ({ frames := 1, cells := 0, slots := 0, locals := 25 } : Room) (va_Pc [.ref a0, .int x1] (xB z D cA M)) (va_Qi K (xWd z D cA) (xA z)) 0 0 (xA z) := by
  refine x_met (by decide +kernel) (Nat.le_of_ble_eq_true rfl) (L0 := [(0, .ref a0), (1, .int x1)]) rfl ?_
  intro p e s m args below meth c E hr hlk hnm
  have E : xE RX11 cX11_keep 4 D cA p s m args c := E
  replace h := h.2
  refine x_iload_n E dX11_keep_0 rfl 1 rfl ?_
  refine x_i2l E dX11_keep_1 ?_
  refine x_lconst (v := (LJ 0)) E dX11_keep_2 (by decide) ?_
  refine x_lconst (v := (LJ 1)) E dX11_keep_3 (by decide) ?_
  refine x_callSi (As := [.long x1.toInt64, .long (LJ 0), .long (LJ 1)]) E mlX11_78 rfl stX11_in (kX11_in l z D cA x1.toInt64 (LJ 0) (LJ 1) M _ h) rfl ⟨rfl, rfl⟩ ⟨Nat.le_of_ble_eq_true rfl, Nat.le_of_ble_eq_true rfl⟩ ⟨(Nat.le_of_ble_eq_true rfl), (Nat.le_of_ble_eq_true rfl)⟩ (Nat.le_of_ble_eq_true rfl) rfl dX11_keep_4 (x_pure (fun r1 h => ?_))
  refine x_if_ne (tgt := 14) E dX11_keep_7 (by decide) (fun c3 => ?_) (fun c3 => ?_)
  · replace h := xbr_f h c3
    clear c3
    refine x_bipush (v := (J 40)) E dX11_keep_14 (by decide) ?_
    refine x_iload_n E dX11_keep_16 rfl 1 rfl ?_
    refine x_imul E dX11_keep_17 ?_
    obtain ⟨y4, ey4, h⟩ := h
    refine x_top (v := .int y4) (congrArg _ ey4) ?_
    clear ey4
    refine x_istore_n (L' := [(2, .int y4), (0, .ref a0), (1, .int x1)]) E dX11_keep_18 rfl (by decide) rfl ?_
    refine x_aload_n E dX11_keep_19 rfl 1 rfl ?_
    obtain ⟨hT, q5, hv, h⟩ := h
    refine x_get E flX11_68 dX11_keep_20 hT hv ?_
    clear hT hv
    refine x_iload_n E dX11_keep_23 rfl 0 rfl ?_
    refine x_aload_n E dX11_keep_24 rfl 1 rfl ?_
    obtain ⟨hT, v6, hv, h⟩ := h
    refine x_get E flX11_222 dX11_keep_25 hT hv ?_
    clear hT hv
    obtain ⟨hT, hi, h⟩ := h
    refine x_iast E dX11_keep_28 hT hi (fun M7 eM7 => ?_)
    replace h := h M7 eM7
    clear hT hi eM7
    refine x_aload_n E dX11_keep_29 rfl 1 rfl ?_
    obtain ⟨hT, q8, hv, h⟩ := h
    refine x_get E flX11_68 dX11_keep_30 hT hv ?_
    clear hT hv
    refine x_iload_n E dX11_keep_33 rfl 0 rfl ?_
    refine x_iconst (v := (J 1)) E dX11_keep_34 (by decide) ?_
    refine x_iadd E dX11_keep_35 ?_
    refine x_aload_n E dX11_keep_36 rfl 1 rfl ?_
    obtain ⟨hT, v9, hv, h⟩ := h
    refine x_get E flX11_225 dX11_keep_37 hT hv ?_
    clear hT hv
    obtain ⟨hT, hi, h⟩ := h
    refine x_iast E dX11_keep_40 hT hi (fun M10 eM10 => ?_)
    replace h := h M10 eM10
    clear hT hi eM10
    refine x_aload_n E dX11_keep_41 rfl 1 rfl ?_
    obtain ⟨hT, q11, hv, h⟩ := h
    refine x_get E flX11_68 dX11_keep_42 hT hv ?_
    clear hT hv
    refine x_iload_n E dX11_keep_45 rfl 0 rfl ?_
    refine x_iconst (v := (J 2)) E dX11_keep_46 (by decide) ?_
    refine x_iadd E dX11_keep_47 ?_
    refine x_aload_n E dX11_keep_48 rfl 1 rfl ?_
    obtain ⟨hT, v12, hv, h⟩ := h
    refine x_get E flX11_319 dX11_keep_49 hT hv ?_
    clear hT hv
    obtain ⟨hT, hi, h⟩ := h
    refine x_iast E dX11_keep_52 hT hi (fun M13 eM13 => ?_)
    replace h := h M13 eM13
    clear hT hi eM13
    refine x_iconst (v := (J 0)) E dX11_keep_53 (by decide) ?_
    refine x_istore_n (L' := [(3, .int (J 0)), (2, .int y4), (0, .ref a0), (1, .int x1)]) E dX11_keep_54 rfl (by decide) rfl ?_
    refine x_sub (L' := [(0, .ref a0), (1, .int x1), (2, .int y4), (3, .int (J 0))]) [2, 3, 1, 0] rfl ?_
    refine lp_sound (T := fun sv => xG p l e ({ frames := 1, cells := 0, slots := 0, locals := 25 } : Room) s m args below meth c (MQ below (va_Qi K (xWd z D cA) (xA z)) args s 0 0 (xA z)) 4 z D cA sv.1 (0) (0) 55 [(0, .ref a0), (1, .int x1), (2, .int y4), (3, .int sv.2)] []) ?_ (M13, (J 0)) h
    clear h
    intro kc55 hk55 sv h
    obtain ⟨M, x3⟩ := sv
    replace h : CX11_keep_55 K a0 x1 y4 kc55 M x3 := h
    try dsimp only
    refine x_iload_n E dX11_keep_55 rfl 3 rfl ?_
    refine x_bipush (v := (J 8)) E dX11_keep_56 (by decide) ?_
    refine x_icmp_ge (tgt := 83) E dX11_keep_58 (by decide) (fun c14 => ?_) (fun c14 => ?_)
    · replace h := xbr_t h c14
      clear c14
      refine x_iconst (v := (J 0)) E dX11_keep_83 (by decide) ?_
      refine x_istore_n (L' := [(3, .int (J 0)), (0, .ref a0), (1, .int x1), (2, .int y4)]) E dX11_keep_84 rfl (by decide) rfl ?_
      refine x_sub (L' := [(0, .ref a0), (1, .int x1), (2, .int y4), (3, .int (J 0))]) [1, 2, 3, 0] rfl ?_
      refine lp_sound (T := fun sv => xG p l e ({ frames := 1, cells := 0, slots := 0, locals := 25 } : Room) s m args below meth c (MQ below (va_Qi K (xWd z D cA) (xA z)) args s 0 0 (xA z)) 4 z D cA sv.1 (0) (0) 85 [(0, .ref a0), (1, .int x1), (2, .int y4), (3, .int sv.2)] []) ?_ (M, (J 0)) h
      clear h
      intro kc85 hk85 sv h
      obtain ⟨M, x3⟩ := sv
      replace h : CX11_keep_85 K a0 x1 y4 kc85 M x3 := h
      try dsimp only
      refine x_iload_n E dX11_keep_85 rfl 3 rfl ?_
      refine x_bipush (v := (J 24)) E dX11_keep_86 (by decide) ?_
      refine x_icmp_ge (tgt := 114) E dX11_keep_88 (by decide) (fun c15 => ?_) (fun c15 => ?_)
      · replace h := xbr_t h c15
        clear c15
        refine x_aload_n E dX11_keep_114 rfl 0 rfl ?_
        obtain ⟨hT, q16, hv, h⟩ := h
        refine x_get E flX11_71 dX11_keep_115 hT hv ?_
        clear hT hv
        refine x_iload_n E dX11_keep_118 rfl 1 rfl ?_
        refine x_iconst (v := (J 1)) E dX11_keep_119 (by decide) ?_
        obtain ⟨hT, hi, h⟩ := h
        refine x_zast E dX11_keep_120 hT hi (fun M17 eM17 => ?_)
        replace h := h M17 eM17
        clear hT hi eM17
        refine x_iconst (v := (J 1)) E dX11_keep_121 (by decide) ?_
        exact x_iret E hr hlk dX11_keep_122 h
      · replace h := xbr_f h c15
        clear c15
        refine x_aload_n E dX11_keep_91 rfl 0 rfl ?_
        obtain ⟨hT, q18, hv, h⟩ := h
        refine x_get E flX11_68 dX11_keep_92 hT hv ?_
        clear hT hv
        refine x_iload_n E dX11_keep_95 rfl 2 rfl ?_
        refine x_bipush (v := (J 11)) E dX11_keep_96 (by decide) ?_
        refine x_iadd E dX11_keep_98 ?_
        refine x_iload_n E dX11_keep_99 rfl 3 rfl ?_
        refine x_iadd E dX11_keep_100 ?_
        refine x_aload_n E dX11_keep_101 rfl 0 rfl ?_
        obtain ⟨hT, q19, hv, h⟩ := h
        refine x_get E flX11_28 dX11_keep_102 hT hv ?_
        clear hT hv
        refine x_iload_n E dX11_keep_105 rfl 3 rfl ?_
        obtain ⟨hT, hi, v20, hv, h⟩ := h
        refine x_iald E dX11_keep_106 hT hi hv ?_
        clear hT hi hv
        obtain ⟨hT, hi, h⟩ := h
        refine x_iast E dX11_keep_107 hT hi (fun M21 eM21 => ?_)
        replace h := h M21 eM21
        clear hT hi eM21
        refine x_iinc (v := (x3 + (J 1))) (L' := [(3, .int (x3 + (J 1))), (0, .ref a0), (1, .int x1), (2, .int y4)]) E dX11_keep_108 3 rfl rfl (by decide) rfl ?_
        refine x_goto (tgt := 85) E dX11_keep_111 (by decide) ?_
        refine x_sub (L' := [(0, .ref a0), (1, .int x1), (2, .int y4), (3, .int (x3 + (J 1)))]) [1, 2, 3, 0] rfl ?_
        exact hk85 (M21, (x3 + (J 1))) h
    · replace h := xbr_f h c14
      clear c14
      refine x_aload_n E dX11_keep_61 rfl 0 rfl ?_
      obtain ⟨hT, q22, hv, h⟩ := h
      refine x_get E flX11_68 dX11_keep_62 hT hv ?_
      clear hT hv
      refine x_iload_n E dX11_keep_65 rfl 2 rfl ?_
      refine x_iconst (v := (J 3)) E dX11_keep_66 (by decide) ?_
      refine x_iadd E dX11_keep_67 ?_
      refine x_iload_n E dX11_keep_68 rfl 3 rfl ?_
      refine x_iadd E dX11_keep_69 ?_
      refine x_aload_n E dX11_keep_70 rfl 0 rfl ?_
      obtain ⟨hT, q23, hv, h⟩ := h
      refine x_get E flX11_31 dX11_keep_71 hT hv ?_
      clear hT hv
      refine x_iload_n E dX11_keep_74 rfl 3 rfl ?_
      obtain ⟨hT, hi, v24, hv, h⟩ := h
      refine x_iald E dX11_keep_75 hT hi hv ?_
      clear hT hi hv
      obtain ⟨hT, hi, h⟩ := h
      refine x_iast E dX11_keep_76 hT hi (fun M25 eM25 => ?_)
      replace h := h M25 eM25
      clear hT hi eM25
      refine x_iinc (v := (x3 + (J 1))) (L' := [(3, .int (x3 + (J 1))), (0, .ref a0), (1, .int x1), (2, .int y4)]) E dX11_keep_77 3 rfl rfl (by decide) rfl ?_
      refine x_goto (tgt := 55) E dX11_keep_80 (by decide) ?_
      refine x_sub (L' := [(0, .ref a0), (1, .int x1), (2, .int y4), (3, .int (x3 + (J 1)))]) [1, 2, 3, 0] rfl ?_
      exact hk55 (M25, (x3 + (J 1))) h
  · replace h := xbr_t h c3
    clear c3
    refine x_sipush (v := (J (-1001))) E dX11_keep_10 (by decide) ?_
    exact x_iret E hr hlk dX11_keep_13 h
theorem dX11_goBack_0 : decode cX11_goBack 0 = .ok (.iload_n 1, 1) := by decide +kernel
theorem dX11_goBack_1 : decode cX11_goBack 1 = .ok (.i2l, 1) := by decide +kernel
theorem dX11_goBack_2 : decode cX11_goBack 2 = .ok (.lconst 0, 1) := by decide +kernel
theorem dX11_goBack_3 : decode cX11_goBack 3 = .ok (.lconst 1, 1) := by decide +kernel
theorem dX11_goBack_4 : decode cX11_goBack 4 = .ok (.invokestatic 78, 3) := by decide +kernel
theorem dX11_goBack_7 : decode cX11_goBack 7 = .ok (.ifCond .ne 7, 3) := by decide +kernel
theorem dX11_goBack_10 : decode cX11_goBack 10 = .ok (.sipush (-1001), 3) := by decide +kernel
theorem dX11_goBack_13 : decode cX11_goBack 13 = .ok (.ireturn, 1) := by decide +kernel
theorem dX11_goBack_14 : decode cX11_goBack 14 = .ok (.aload_n 0, 1) := by decide +kernel
theorem dX11_goBack_15 : decode cX11_goBack 15 = .ok (.getfield 71, 3) := by decide +kernel
theorem dX11_goBack_18 : decode cX11_goBack 18 = .ok (.iload_n 1, 1) := by decide +kernel
theorem dX11_goBack_19 : decode cX11_goBack 19 = .ok (.baload, 1) := by decide +kernel
theorem dX11_goBack_20 : decode cX11_goBack 20 = .ok (.ifCond .ne 7, 3) := by decide +kernel
theorem dX11_goBack_23 : decode cX11_goBack 23 = .ok (.sipush (-1003), 3) := by decide +kernel
theorem dX11_goBack_26 : decode cX11_goBack 26 = .ok (.ireturn, 1) := by decide +kernel
theorem dX11_goBack_27 : decode cX11_goBack 27 = .ok (.bipush 40, 2) := by decide +kernel
theorem dX11_goBack_29 : decode cX11_goBack 29 = .ok (.iload_n 1, 1) := by decide +kernel
theorem dX11_goBack_30 : decode cX11_goBack 30 = .ok (.imul, 1) := by decide +kernel
theorem dX11_goBack_31 : decode cX11_goBack 31 = .ok (.istore_n 2, 1) := by decide +kernel
theorem dX11_goBack_32 : decode cX11_goBack 32 = .ok (.aload_n 0, 1) := by decide +kernel
theorem dX11_goBack_33 : decode cX11_goBack 33 = .ok (.invokevirtual 258, 3) := by decide +kernel
theorem dX11_goBack_36 : decode cX11_goBack 36 = .ok (.aload_n 0, 1) := by decide +kernel
theorem dX11_goBack_37 : decode cX11_goBack 37 = .ok (.aload_n 0, 1) := by decide +kernel
theorem dX11_goBack_38 : decode cX11_goBack 38 = .ok (.getfield 68, 3) := by decide +kernel
theorem dX11_goBack_41 : decode cX11_goBack 41 = .ok (.iload_n 2, 1) := by decide +kernel
theorem dX11_goBack_42 : decode cX11_goBack 42 = .ok (.iaload, 1) := by decide +kernel
theorem dX11_goBack_43 : decode cX11_goBack 43 = .ok (.putfield 222, 3) := by decide +kernel
theorem dX11_goBack_46 : decode cX11_goBack 46 = .ok (.iconst 0, 1) := by decide +kernel
theorem dX11_goBack_47 : decode cX11_goBack 47 = .ok (.istore_n 3, 1) := by decide +kernel
theorem dX11_goBack_48 : decode cX11_goBack 48 = .ok (.iload_n 3, 1) := by decide +kernel
theorem dX11_goBack_49 : decode cX11_goBack 49 = .ok (.bipush 8, 2) := by decide +kernel
theorem dX11_goBack_51 : decode cX11_goBack 51 = .ok (.if_icmp .ge 25, 3) := by decide +kernel
theorem dX11_goBack_54 : decode cX11_goBack 54 = .ok (.aload_n 0, 1) := by decide +kernel
theorem dX11_goBack_55 : decode cX11_goBack 55 = .ok (.getfield 31, 3) := by decide +kernel
theorem dX11_goBack_58 : decode cX11_goBack 58 = .ok (.iload_n 3, 1) := by decide +kernel
theorem dX11_goBack_59 : decode cX11_goBack 59 = .ok (.aload_n 0, 1) := by decide +kernel
theorem dX11_goBack_60 : decode cX11_goBack 60 = .ok (.getfield 68, 3) := by decide +kernel
theorem dX11_goBack_63 : decode cX11_goBack 63 = .ok (.iload_n 2, 1) := by decide +kernel
theorem dX11_goBack_64 : decode cX11_goBack 64 = .ok (.iconst 3, 1) := by decide +kernel
theorem dX11_goBack_65 : decode cX11_goBack 65 = .ok (.iadd, 1) := by decide +kernel
theorem dX11_goBack_66 : decode cX11_goBack 66 = .ok (.iload_n 3, 1) := by decide +kernel
theorem dX11_goBack_67 : decode cX11_goBack 67 = .ok (.iadd, 1) := by decide +kernel
theorem dX11_goBack_68 : decode cX11_goBack 68 = .ok (.iaload, 1) := by decide +kernel
theorem dX11_goBack_69 : decode cX11_goBack 69 = .ok (.iastore, 1) := by decide +kernel
theorem dX11_goBack_70 : decode cX11_goBack 70 = .ok (.iinc 3 1, 3) := by decide +kernel
theorem dX11_goBack_73 : decode cX11_goBack 73 = .ok (.goto (-25), 3) := by decide +kernel
theorem dX11_goBack_76 : decode cX11_goBack 76 = .ok (.iconst 0, 1) := by decide +kernel
theorem dX11_goBack_77 : decode cX11_goBack 77 = .ok (.istore_n 3, 1) := by decide +kernel
theorem dX11_goBack_78 : decode cX11_goBack 78 = .ok (.iload_n 3, 1) := by decide +kernel
theorem dX11_goBack_79 : decode cX11_goBack 79 = .ok (.bipush 24, 2) := by decide +kernel
theorem dX11_goBack_81 : decode cX11_goBack 81 = .ok (.if_icmp .ge 26, 3) := by decide +kernel
theorem dX11_goBack_84 : decode cX11_goBack 84 = .ok (.aload_n 0, 1) := by decide +kernel
theorem dX11_goBack_85 : decode cX11_goBack 85 = .ok (.getfield 28, 3) := by decide +kernel
theorem dX11_goBack_88 : decode cX11_goBack 88 = .ok (.iload_n 3, 1) := by decide +kernel
theorem dX11_goBack_89 : decode cX11_goBack 89 = .ok (.aload_n 0, 1) := by decide +kernel
theorem dX11_goBack_90 : decode cX11_goBack 90 = .ok (.getfield 68, 3) := by decide +kernel
theorem dX11_goBack_93 : decode cX11_goBack 93 = .ok (.iload_n 2, 1) := by decide +kernel
theorem dX11_goBack_94 : decode cX11_goBack 94 = .ok (.bipush 11, 2) := by decide +kernel
theorem dX11_goBack_96 : decode cX11_goBack 96 = .ok (.iadd, 1) := by decide +kernel
theorem dX11_goBack_97 : decode cX11_goBack 97 = .ok (.iload_n 3, 1) := by decide +kernel
theorem dX11_goBack_98 : decode cX11_goBack 98 = .ok (.iadd, 1) := by decide +kernel
theorem dX11_goBack_99 : decode cX11_goBack 99 = .ok (.iaload, 1) := by decide +kernel
theorem dX11_goBack_100 : decode cX11_goBack 100 = .ok (.iastore, 1) := by decide +kernel
theorem dX11_goBack_101 : decode cX11_goBack 101 = .ok (.iinc 3 1, 3) := by decide +kernel
theorem dX11_goBack_104 : decode cX11_goBack 104 = .ok (.goto (-26), 3) := by decide +kernel
theorem dX11_goBack_107 : decode cX11_goBack 107 = .ok (.iconst 1, 1) := by decide +kernel
theorem dX11_goBack_108 : decode cX11_goBack 108 = .ok (.istore_n 3, 1) := by decide +kernel
theorem dX11_goBack_109 : decode cX11_goBack 109 = .ok (.iconst 0, 1) := by decide +kernel
theorem dX11_goBack_110 : decode cX11_goBack 110 = .ok (.istore 4, 2) := by decide +kernel
theorem dX11_goBack_112 : decode cX11_goBack 112 = .ok (.iload 4, 2) := by decide +kernel
theorem dX11_goBack_114 : decode cX11_goBack 114 = .ok (.bipush 8, 2) := by decide +kernel
theorem dX11_goBack_116 : decode cX11_goBack 116 = .ok (.if_icmp .ge 28, 3) := by decide +kernel
theorem dX11_goBack_119 : decode cX11_goBack 119 = .ok (.iload_n 3, 1) := by decide +kernel
theorem dX11_goBack_120 : decode cX11_goBack 120 = .ok (.ifCond .eq 16, 3) := by decide +kernel
theorem dX11_goBack_123 : decode cX11_goBack 123 = .ok (.aload_n 0, 1) := by decide +kernel
theorem dX11_goBack_124 : decode cX11_goBack 124 = .ok (.iload 4, 2) := by decide +kernel
theorem dX11_goBack_126 : decode cX11_goBack 126 = .ok (.invokevirtual 239, 3) := by decide +kernel
theorem dX11_goBack_129 : decode cX11_goBack 129 = .ok (.ifCond .lt 7, 3) := by decide +kernel
theorem dX11_goBack_132 : decode cX11_goBack 132 = .ok (.iconst 1, 1) := by decide +kernel
theorem dX11_goBack_133 : decode cX11_goBack 133 = .ok (.goto 4, 3) := by decide +kernel
theorem dX11_goBack_136 : decode cX11_goBack 136 = .ok (.iconst 0, 1) := by decide +kernel
theorem dX11_goBack_137 : decode cX11_goBack 137 = .ok (.istore_n 3, 1) := by decide +kernel
theorem dX11_goBack_138 : decode cX11_goBack 138 = .ok (.iinc 4 1, 3) := by decide +kernel
theorem dX11_goBack_141 : decode cX11_goBack 141 = .ok (.goto (-29), 3) := by decide +kernel
theorem dX11_goBack_144 : decode cX11_goBack 144 = .ok (.iload_n 3, 1) := by decide +kernel
theorem dX11_goBack_145 : decode cX11_goBack 145 = .ok (.ifCond .ne 11, 3) := by decide +kernel
theorem dX11_goBack_148 : decode cX11_goBack 148 = .ok (.aload_n 0, 1) := by decide +kernel
theorem dX11_goBack_149 : decode cX11_goBack 149 = .ok (.invokevirtual 264, 3) := by decide +kernel
theorem dX11_goBack_152 : decode cX11_goBack 152 = .ok (.sipush (-1003), 3) := by decide +kernel
theorem dX11_goBack_155 : decode cX11_goBack 155 = .ok (.ireturn, 1) := by decide +kernel
theorem dX11_goBack_156 : decode cX11_goBack 156 = .ok (.aload_n 0, 1) := by decide +kernel
theorem dX11_goBack_157 : decode cX11_goBack 157 = .ok (.aload_n 0, 1) := by decide +kernel
theorem dX11_goBack_158 : decode cX11_goBack 158 = .ok (.getfield 68, 3) := by decide +kernel
theorem dX11_goBack_161 : decode cX11_goBack 161 = .ok (.iload_n 2, 1) := by decide +kernel
theorem dX11_goBack_162 : decode cX11_goBack 162 = .ok (.iconst 1, 1) := by decide +kernel
theorem dX11_goBack_163 : decode cX11_goBack 163 = .ok (.iadd, 1) := by decide +kernel
theorem dX11_goBack_164 : decode cX11_goBack 164 = .ok (.iaload, 1) := by decide +kernel
theorem dX11_goBack_165 : decode cX11_goBack 165 = .ok (.putfield 225, 3) := by decide +kernel
theorem dX11_goBack_168 : decode cX11_goBack 168 = .ok (.aload_n 0, 1) := by decide +kernel
theorem dX11_goBack_169 : decode cX11_goBack 169 = .ok (.aload_n 0, 1) := by decide +kernel
theorem dX11_goBack_170 : decode cX11_goBack 170 = .ok (.getfield 68, 3) := by decide +kernel
theorem dX11_goBack_173 : decode cX11_goBack 173 = .ok (.iload_n 2, 1) := by decide +kernel
theorem dX11_goBack_174 : decode cX11_goBack 174 = .ok (.iconst 2, 1) := by decide +kernel
theorem dX11_goBack_175 : decode cX11_goBack 175 = .ok (.iadd, 1) := by decide +kernel
theorem dX11_goBack_176 : decode cX11_goBack 176 = .ok (.iaload, 1) := by decide +kernel
theorem dX11_goBack_177 : decode cX11_goBack 177 = .ok (.putfield 319, 3) := by decide +kernel
theorem dX11_goBack_180 : decode cX11_goBack 180 = .ok (.iconst 1, 1) := by decide +kernel
theorem dX11_goBack_181 : decode cX11_goBack 181 = .ok (.ireturn, 1) := by decide +kernel
set_option maxHeartbeats 4000000 in
set_option maxRecDepth 100000 in
theorem kX11_goBack (l : Launch) (z : Nat) (D : va_G) (cA : Nat → ClassId) (a0 : Nat) (x1 : Int32) (M : Mem) (K : Int32 → Mem → Prop) (h : PX11_goBack a0 x1 M K) : Met l yX11_goBack (.code yX11_goBack cX11_goBack 5 (some .int) :: gtbl) ({ frames := 3, cells := 0, slots := 0, locals := 68 } : Room) (va_Pc [.ref a0, .int x1] (xB z D cA M)) (va_Qi K (xWd z D cA) (xA z)) 0 0 (xA z) := by
  refine x_met (by decide +kernel) (Nat.le_of_ble_eq_true rfl) (L0 := [(0, .ref a0), (1, .int x1)]) rfl ?_
  intro p e s m args below meth c E hr hlk hnm
  have E : xE RX11 cX11_goBack 5 D cA p s m args c := E
  replace h := h.2
  refine x_iload_n E dX11_goBack_0 rfl 1 rfl ?_
  refine x_i2l E dX11_goBack_1 ?_
  refine x_lconst (v := (LJ 0)) E dX11_goBack_2 (by decide) ?_
  refine x_lconst (v := (LJ 1)) E dX11_goBack_3 (by decide) ?_
  refine x_callSi (As := [.long x1.toInt64, .long (LJ 0), .long (LJ 1)]) E mlX11_78 rfl stX11_in (kX11_in l z D cA x1.toInt64 (LJ 0) (LJ 1) M _ h) rfl ⟨rfl, rfl⟩ ⟨Nat.le_of_ble_eq_true rfl, Nat.le_of_ble_eq_true rfl⟩ ⟨(Nat.le_of_ble_eq_true rfl), (Nat.le_of_ble_eq_true rfl)⟩ (Nat.le_of_ble_eq_true rfl) rfl dX11_goBack_4 (x_pure (fun r1 h => ?_))
  refine x_if_ne (tgt := 14) E dX11_goBack_7 (by decide) (fun c3 => ?_) (fun c3 => ?_)
  · replace h := xbr_f h c3
    clear c3
    refine x_aload_n E dX11_goBack_14 rfl 0 rfl ?_
    obtain ⟨hT, q4, hv, h⟩ := h
    refine x_get E flX11_71 dX11_goBack_15 hT hv ?_
    clear hT hv
    refine x_iload_n E dX11_goBack_18 rfl 1 rfl ?_
    obtain ⟨hT, hi, v5, hv, h⟩ := h
    refine x_zald E dX11_goBack_19 hT hi hv ?_
    clear hT hi hv
    refine x_if_ne (tgt := 27) E dX11_goBack_20 (by decide) (fun c6 => ?_) (fun c6 => ?_)
    · replace h := xbr_f h c6
      clear c6
      refine x_bipush (v := (J 40)) E dX11_goBack_27 (by decide) ?_
      refine x_iload_n E dX11_goBack_29 rfl 1 rfl ?_
      refine x_imul E dX11_goBack_30 ?_
      obtain ⟨y7, ey7, h⟩ := h
      refine x_top (v := .int y7) (congrArg _ ey7) ?_
      clear ey7
      refine x_istore_n (L' := [(2, .int y7), (0, .ref a0), (1, .int x1)]) E dX11_goBack_31 rfl (by decide) rfl ?_
      refine x_aload_n E dX11_goBack_32 rfl 1 rfl ?_
      refine x_callVv (T := TX11) (N := 32) (t := 12) (As := []) E mlX11_258 inX11_save seX11_save rfl ⟨by decide, by decide⟩ (tX11_save h) (kX11_save l z D cA a0 M _ h) rfl ⟨rfl, rfl⟩ ⟨Nat.le_of_ble_eq_true rfl, Nat.le_of_ble_eq_true rfl⟩ ⟨(Nat.le_of_ble_eq_true rfl), (Nat.le_of_ble_eq_true rfl)⟩ (Nat.le_of_ble_eq_true rfl) rfl dX11_goBack_33 (fun M9 h => ?_)
      refine x_aload_n E dX11_goBack_36 rfl 1 rfl ?_
      refine x_aload_n E dX11_goBack_37 rfl 1 rfl ?_
      obtain ⟨hT, q10, hv, h⟩ := h
      refine x_get E flX11_68 dX11_goBack_38 hT hv ?_
      clear hT hv
      refine x_iload_n E dX11_goBack_41 rfl 0 rfl ?_
      obtain ⟨hT, hi, v11, hv, h⟩ := h
      refine x_iald E dX11_goBack_42 hT hi hv ?_
      clear hT hi hv
      obtain ⟨hT, h⟩ := h
      refine x_put E flX11_222 ⟨tyX11_ok, nmX11, rfl⟩ (by decide +kernel) rfl rfl dX11_goBack_43 hT (fun M12 eM12 => ?_)
      replace h := h M12 eM12
      clear hT eM12
      refine x_iconst (v := (J 0)) E dX11_goBack_46 (by decide) ?_
      refine x_istore_n (L' := [(3, .int (J 0)), (2, .int y7), (0, .ref a0), (1, .int x1)]) E dX11_goBack_47 rfl (by decide) rfl ?_
      refine x_sub (L' := [(0, .ref a0), (2, .int y7), (3, .int (J 0))]) [2, 1, 0] rfl ?_
      refine lp_sound (T := fun sv => xG p l e ({ frames := 3, cells := 0, slots := 0, locals := 68 } : Room) s m args below meth c (MQ below (va_Qi K (xWd z D cA) (xA z)) args s 0 0 (xA z)) 5 z D cA sv.1 (0) (0) 48 [(0, .ref a0), (2, .int y7), (3, .int sv.2)] []) ?_ (M12, (J 0)) h
      clear h
      intro kc48 hk48 sv h
      obtain ⟨M, x3⟩ := sv
      replace h : CX11_goBack_48 K a0 y7 kc48 M x3 := h
      try dsimp only
      refine x_iload_n E dX11_goBack_48 rfl 2 rfl ?_
      refine x_bipush (v := (J 8)) E dX11_goBack_49 (by decide) ?_
      refine x_icmp_ge (tgt := 76) E dX11_goBack_51 (by decide) (fun c13 => ?_) (fun c13 => ?_)
      · replace h := xbr_t h c13
        clear c13
        refine x_iconst (v := (J 0)) E dX11_goBack_76 (by decide) ?_
        refine x_istore_n (L' := [(3, .int (J 0)), (0, .ref a0), (2, .int y7)]) E dX11_goBack_77 rfl (by decide) rfl ?_
        refine x_sub (L' := [(0, .ref a0), (2, .int y7), (3, .int (J 0))]) [1, 2, 0] rfl ?_
        refine lp_sound (T := fun sv => xG p l e ({ frames := 3, cells := 0, slots := 0, locals := 68 } : Room) s m args below meth c (MQ below (va_Qi K (xWd z D cA) (xA z)) args s 0 0 (xA z)) 5 z D cA sv.1 (0) (0) 78 [(0, .ref a0), (2, .int y7), (3, .int sv.2)] []) ?_ (M, (J 0)) h
        clear h
        intro kc78 hk78 sv h
        obtain ⟨M, x3⟩ := sv
        replace h : CX11_goBack_78 K a0 y7 kc78 M x3 := h
        try dsimp only
        refine x_iload_n E dX11_goBack_78 rfl 2 rfl ?_
        refine x_bipush (v := (J 24)) E dX11_goBack_79 (by decide) ?_
        refine x_icmp_ge (tgt := 107) E dX11_goBack_81 (by decide) (fun c14 => ?_) (fun c14 => ?_)
        · replace h := xbr_t h c14
          clear c14
          refine x_iconst (v := (J 1)) E dX11_goBack_107 (by decide) ?_
          refine x_istore_n (L' := [(3, .int (J 1)), (0, .ref a0), (2, .int y7)]) E dX11_goBack_108 rfl (by decide) rfl ?_
          refine x_iconst (v := (J 0)) E dX11_goBack_109 (by decide) ?_
          refine x_istore (L' := [(4, .int (J 0)), (3, .int (J 1)), (0, .ref a0), (2, .int y7)]) E dX11_goBack_110 (by decide) rfl ?_
          refine x_sub (L' := [(0, .ref a0), (2, .int y7), (3, .int (J 1)), (4, .int (J 0))]) [2, 3, 1, 0] rfl ?_
          refine lp_sound (T := fun sv => xG p l e ({ frames := 3, cells := 0, slots := 0, locals := 68 } : Room) s m args below meth c (MQ below (va_Qi K (xWd z D cA) (xA z)) args s 0 0 (xA z)) 5 z D cA M (0) (0) 112 [(0, .ref a0), (2, .int y7), (3, .int sv.1), (4, .int sv.2)] []) ?_ ((J 1), (J 0)) h
          clear h
          intro kc112 hk112 sv h
          obtain ⟨x3, x4⟩ := sv
          replace h : CX11_goBack_112 K M a0 y7 kc112 x3 x4 := h
          try dsimp only
          refine x_iload E dX11_goBack_112 3 rfl ?_
          refine x_bipush (v := (J 8)) E dX11_goBack_114 (by decide) ?_
          refine x_icmp_ge (tgt := 144) E dX11_goBack_116 (by decide) (fun c15 => ?_) (fun c15 => ?_)
          · replace h := xbr_t h c15
            clear c15
            refine x_iload_n E dX11_goBack_144 rfl 2 rfl ?_
            refine x_if_ne (tgt := 156) E dX11_goBack_145 (by decide) (fun c16 => ?_) (fun c16 => ?_)
            · replace h := xbr_f h c16
              clear c16
              refine x_aload_n E dX11_goBack_156 rfl 0 rfl ?_
              refine x_aload_n E dX11_goBack_157 rfl 0 rfl ?_
              obtain ⟨hT, q17, hv, h⟩ := h
              refine x_get E flX11_68 dX11_goBack_158 hT hv ?_
              clear hT hv
              refine x_iload_n E dX11_goBack_161 rfl 1 rfl ?_
              refine x_iconst (v := (J 1)) E dX11_goBack_162 (by decide) ?_
              refine x_iadd E dX11_goBack_163 ?_
              obtain ⟨hT, hi, v18, hv, h⟩ := h
              refine x_iald E dX11_goBack_164 hT hi hv ?_
              clear hT hi hv
              obtain ⟨hT, h⟩ := h
              refine x_put E flX11_225 ⟨tyX11_ok, nmX11, rfl⟩ (by decide +kernel) rfl rfl dX11_goBack_165 hT (fun M19 eM19 => ?_)
              replace h := h M19 eM19
              clear hT eM19
              refine x_aload_n E dX11_goBack_168 rfl 0 rfl ?_
              refine x_aload_n E dX11_goBack_169 rfl 0 rfl ?_
              obtain ⟨hT, q20, hv, h⟩ := h
              refine x_get E flX11_68 dX11_goBack_170 hT hv ?_
              clear hT hv
              refine x_iload_n E dX11_goBack_173 rfl 1 rfl ?_
              refine x_iconst (v := (J 2)) E dX11_goBack_174 (by decide) ?_
              refine x_iadd E dX11_goBack_175 ?_
              obtain ⟨hT, hi, v21, hv, h⟩ := h
              refine x_iald E dX11_goBack_176 hT hi hv ?_
              clear hT hi hv
              obtain ⟨hT, h⟩ := h
              refine x_put E flX11_319 ⟨tyX11_ok, nmX11, rfl⟩ (by decide +kernel) rfl rfl dX11_goBack_177 hT (fun M22 eM22 => ?_)
              replace h := h M22 eM22
              clear hT eM22
              refine x_iconst (v := (J 1)) E dX11_goBack_180 (by decide) ?_
              exact x_iret E hr hlk dX11_goBack_181 h
            · replace h := xbr_t h c16
              clear c16
              refine x_aload_n E dX11_goBack_148 rfl 0 rfl ?_
              refine x_callVv (T := TX11) (N := 32) (t := 12) (As := []) E mlX11_264 inX11_back seX11_back rfl ⟨by decide, by decide⟩ (tX11_back h) (kX11_back l z D cA a0 M _ h) rfl ⟨rfl, rfl⟩ ⟨Nat.le_of_ble_eq_true rfl, Nat.le_of_ble_eq_true rfl⟩ ⟨(Nat.le_of_ble_eq_true rfl), (Nat.le_of_ble_eq_true rfl)⟩ (Nat.le_of_ble_eq_true rfl) rfl dX11_goBack_149 (fun M24 h => ?_)
              refine x_sipush (v := (J (-1003))) E dX11_goBack_152 (by decide) ?_
              exact x_iret E hr hlk dX11_goBack_155 h
          · replace h := xbr_f h c15
            clear c15
            refine x_iload_n E dX11_goBack_119 rfl 2 rfl ?_
            refine x_if_eq (tgt := 136) E dX11_goBack_120 (by decide) (fun c25 => ?_) (fun c25 => ?_)
            · replace h := xbr_t h c25
              clear c25
              refine x_iconst (v := (J 0)) E dX11_goBack_136 (by decide) ?_
              refine x_istore_n (L' := [(3, .int (J 0)), (0, .ref a0), (2, .int y7), (4, .int x4)]) E dX11_goBack_137 rfl (by decide) rfl ?_
              refine x_iinc (v := (x4 + (J 1))) (L' := [(4, .int (x4 + (J 1))), (3, .int (J 0)), (0, .ref a0), (2, .int y7)]) E dX11_goBack_138 3 rfl rfl (by decide) rfl ?_
              refine x_goto (tgt := 112) E dX11_goBack_141 (by decide) ?_
              refine x_sub (L' := [(0, .ref a0), (2, .int y7), (3, .int (J 0)), (4, .int (x4 + (J 1)))]) [2, 3, 1, 0] rfl ?_
              exact hk112 ((J 0), (x4 + (J 1))) h
            · replace h := xbr_f h c25
              clear c25
              refine x_aload_n E dX11_goBack_123 rfl 0 rfl ?_
              refine x_iload E dX11_goBack_124 3 rfl ?_
              refine x_callVi (T := TX11) (N := 32) (t := 12) (As := [.int x4]) E mlX11_239 inX11_roomOn seX11_roomOn rfl ⟨by decide, by decide⟩ (tX11_roomOn h) (kX11_roomOn l z D cA a0 x4 M _ h) rfl ⟨rfl, rfl⟩ ⟨Nat.le_of_ble_eq_true rfl, Nat.le_of_ble_eq_true rfl⟩ ⟨(Nat.le_of_ble_eq_true rfl), (Nat.le_of_ble_eq_true rfl)⟩ (Nat.le_of_ble_eq_true rfl) rfl dX11_goBack_126 (x_pure (fun r26 h => ?_))
              refine x_if_lt (tgt := 136) E dX11_goBack_129 (by decide) (fun c28 => ?_) (fun c28 => ?_)
              · replace h := xbr_t h c28
                clear c28
                refine x_iconst (v := (J 0)) E dX11_goBack_136 (by decide) ?_
                refine x_istore_n (L' := [(3, .int (J 0)), (0, .ref a0), (2, .int y7), (4, .int x4)]) E dX11_goBack_137 rfl (by decide) rfl ?_
                refine x_iinc (v := (x4 + (J 1))) (L' := [(4, .int (x4 + (J 1))), (3, .int (J 0)), (0, .ref a0), (2, .int y7)]) E dX11_goBack_138 3 rfl rfl (by decide) rfl ?_
                refine x_goto (tgt := 112) E dX11_goBack_141 (by decide) ?_
                refine x_sub (L' := [(0, .ref a0), (2, .int y7), (3, .int (J 0)), (4, .int (x4 + (J 1)))]) [2, 3, 1, 0] rfl ?_
                exact hk112 ((J 0), (x4 + (J 1))) h
              · replace h := xbr_f h c28
                clear c28
                refine x_iconst (v := (J 1)) E dX11_goBack_132 (by decide) ?_
                refine x_goto (tgt := 137) E dX11_goBack_133 (by decide) ?_
                refine x_istore_n (L' := [(3, .int (J 1)), (0, .ref a0), (2, .int y7), (4, .int x4)]) E dX11_goBack_137 rfl (by decide) rfl ?_
                refine x_iinc (v := (x4 + (J 1))) (L' := [(4, .int (x4 + (J 1))), (3, .int (J 1)), (0, .ref a0), (2, .int y7)]) E dX11_goBack_138 3 rfl rfl (by decide) rfl ?_
                refine x_goto (tgt := 112) E dX11_goBack_141 (by decide) ?_
                refine x_sub (L' := [(0, .ref a0), (2, .int y7), (3, .int (J 1)), (4, .int (x4 + (J 1)))]) [2, 3, 1, 0] rfl ?_
                exact hk112 ((J 1), (x4 + (J 1))) h
        · replace h := xbr_f h c14
          clear c14
          refine x_aload_n E dX11_goBack_84 rfl 0 rfl ?_
          obtain ⟨hT, q29, hv, h⟩ := h
          refine x_get E flX11_28 dX11_goBack_85 hT hv ?_
          clear hT hv
          refine x_iload_n E dX11_goBack_88 rfl 2 rfl ?_
          refine x_aload_n E dX11_goBack_89 rfl 0 rfl ?_
          obtain ⟨hT, q30, hv, h⟩ := h
          refine x_get E flX11_68 dX11_goBack_90 hT hv ?_
          clear hT hv
          refine x_iload_n E dX11_goBack_93 rfl 1 rfl ?_
          refine x_bipush (v := (J 11)) E dX11_goBack_94 (by decide) ?_
          refine x_iadd E dX11_goBack_96 ?_
          refine x_iload_n E dX11_goBack_97 rfl 2 rfl ?_
          refine x_iadd E dX11_goBack_98 ?_
          obtain ⟨hT, hi, v31, hv, h⟩ := h
          refine x_iald E dX11_goBack_99 hT hi hv ?_
          clear hT hi hv
          obtain ⟨hT, hi, h⟩ := h
          refine x_iast E dX11_goBack_100 hT hi (fun M32 eM32 => ?_)
          replace h := h M32 eM32
          clear hT hi eM32
          refine x_iinc (v := (x3 + (J 1))) (L' := [(3, .int (x3 + (J 1))), (0, .ref a0), (2, .int y7)]) E dX11_goBack_101 2 rfl rfl (by decide) rfl ?_
          refine x_goto (tgt := 78) E dX11_goBack_104 (by decide) ?_
          refine x_sub (L' := [(0, .ref a0), (2, .int y7), (3, .int (x3 + (J 1)))]) [1, 2, 0] rfl ?_
          exact hk78 (M32, (x3 + (J 1))) h
      · replace h := xbr_f h c13
        clear c13
        refine x_aload_n E dX11_goBack_54 rfl 0 rfl ?_
        obtain ⟨hT, q33, hv, h⟩ := h
        refine x_get E flX11_31 dX11_goBack_55 hT hv ?_
        clear hT hv
        refine x_iload_n E dX11_goBack_58 rfl 2 rfl ?_
        refine x_aload_n E dX11_goBack_59 rfl 0 rfl ?_
        obtain ⟨hT, q34, hv, h⟩ := h
        refine x_get E flX11_68 dX11_goBack_60 hT hv ?_
        clear hT hv
        refine x_iload_n E dX11_goBack_63 rfl 1 rfl ?_
        refine x_iconst (v := (J 3)) E dX11_goBack_64 (by decide) ?_
        refine x_iadd E dX11_goBack_65 ?_
        refine x_iload_n E dX11_goBack_66 rfl 2 rfl ?_
        refine x_iadd E dX11_goBack_67 ?_
        obtain ⟨hT, hi, v35, hv, h⟩ := h
        refine x_iald E dX11_goBack_68 hT hi hv ?_
        clear hT hi hv
        obtain ⟨hT, hi, h⟩ := h
        refine x_iast E dX11_goBack_69 hT hi (fun M36 eM36 => ?_)
        replace h := h M36 eM36
        clear hT hi eM36
        refine x_iinc (v := (x3 + (J 1))) (L' := [(3, .int (x3 + (J 1))), (0, .ref a0), (2, .int y7)]) E dX11_goBack_70 2 rfl rfl (by decide) rfl ?_
        refine x_goto (tgt := 48) E dX11_goBack_73 (by decide) ?_
        refine x_sub (L' := [(0, .ref a0), (2, .int y7), (3, .int (x3 + (J 1)))]) [1, 2, 0] rfl ?_
        exact hk48 (M36, (x3 + (J 1))) h
    · replace h := xbr_t h c6
      clear c6
      refine x_sipush (v := (J (-1003))) E dX11_goBack_23 (by decide) ?_
      exact x_iret E hr hlk dX11_goBack_26 h
  · replace h := xbr_t h c3
    clear c3
    refine x_sipush (v := (J (-1001))) E dX11_goBack_10 (by decide) ?_
    exact x_iret E hr hlk dX11_goBack_13 h
