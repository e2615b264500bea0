/-! contracts (by program) -/
theorem dX10_guess_0 : decode cX10_guess 0 = .ok (.aload_n 0, 1) := by decide +kernel
theorem dX10_guess_1 : decode cX10_guess 1 = .ok (.getfield 21, 3) := by decide +kernel
theorem dX10_guess_4 : decode cX10_guess 4 = .ok (.iload_n 1, 1) := by decide +kernel
theorem dX10_guess_5 : decode cX10_guess 5 = .ok (.invokevirtual 113, 3) := by decide +kernel
theorem dX10_guess_8 : decode cX10_guess 8 = .ok (.ifCond .ne 7, 3) := by decide +kernel
theorem dX10_guess_11 : decode cX10_guess 11 = .ok (.sipush (-1001), 3) := by decide +kernel
theorem dX10_guess_14 : decode cX10_guess 14 = .ok (.ireturn, 1) := by decide +kernel
theorem dX10_guess_15 : decode cX10_guess 15 = .ok (.aload_n 0, 1) := by decide +kernel
theorem dX10_guess_16 : decode cX10_guess 16 = .ok (.getfield 35, 3) := by decide +kernel
theorem dX10_guess_19 : decode cX10_guess 19 = .ok (.iload_n 1, 1) := by decide +kernel
theorem dX10_guess_20 : decode cX10_guess 20 = .ok (.invokevirtual 136, 3) := by decide +kernel
theorem dX10_guess_23 : decode cX10_guess 23 = .ok (.ifCond .eq 22, 3) := by decide +kernel
theorem dX10_guess_26 : decode cX10_guess 26 = .ok (.aload_n 0, 1) := by decide +kernel
theorem dX10_guess_27 : decode cX10_guess 27 = .ok (.getfield 45, 3) := by decide +kernel
theorem dX10_guess_30 : decode cX10_guess 30 = .ok (.aload_n 0, 1) := by decide +kernel
theorem dX10_guess_31 : decode cX10_guess 31 = .ok (.getfield 35, 3) := by decide +kernel
theorem dX10_guess_34 : decode cX10_guess 34 = .ok (.aload_n 0, 1) := by decide +kernel
theorem dX10_guess_35 : decode cX10_guess 35 = .ok (.getfield 21, 3) := by decide +kernel
theorem dX10_guess_38 : decode cX10_guess 38 = .ok (.iload_n 1, 1) := by decide +kernel
theorem dX10_guess_39 : decode cX10_guess 39 = .ok (.invokevirtual 225, 3) := by decide +kernel
theorem dX10_guess_42 : decode cX10_guess 42 = .ok (.goto 6, 3) := by decide +kernel
theorem dX10_guess_45 : decode cX10_guess 45 = .ok (.sipush (-1003), 3) := by decide +kernel
theorem dX10_guess_48 : decode cX10_guess 48 = .ok (.ireturn, 1) := by decide +kernel
set_option maxHeartbeats 4000000 in
set_option maxRecDepth 100000 in
theorem kX10_guess (l : Launch) (z : Nat) (D : va_G) (cA : Nat → ClassId) (a0 : Nat) (x1 : Int32) (M : Mem) (K : Int32 → Mem → Prop) (h : PX10_guess a0 x1 M K) : Met l yX10_guess (.code yX10_guess cX10_guess 2 (some .int) :: gtbl) ({ frames := 6, cells := 0, slots := 0, locals := 149 } : Room) (va_Pc [.ref a0, .int x1] (xB z D cA M)) (va_Qi K (xWd z D cA) (xA z)) 0 0 (xA z) := by
  refine x_met (by decide +kernel) (Nat.le_of_ble_eq_true rfl) (L0 := [(0, .ref a0), (1, .int x1)]) rfl ?_
  intro p e s m args below meth c E hr hlk hnm
  have E : xE RX10 cX10_guess 2 D cA p s m args c := E
  replace h := h.2
  refine x_aload_n E dX10_guess_0 rfl 0 rfl ?_
  obtain ⟨hT, q1, hv, h⟩ := h
  refine x_get E flX10_21 dX10_guess_1 hT hv ?_
  clear hT hv
  refine x_iload_n E dX10_guess_4 rfl 1 rfl ?_
  refine x_callVi (T := TX2) (N := 4) (t := 3) (As := [.int x1]) E mlX10_113 inX2_has seX2_has rfl ⟨by decide, by decide⟩ (tX2_has h) (kX2_has l z D cA q1 x1 M _ h) rfl ⟨rfl, rfl⟩ ⟨Nat.le_of_ble_eq_true rfl, Nat.le_of_ble_eq_true rfl⟩ ⟨(Nat.le_of_ble_eq_true rfl), (Nat.le_of_ble_eq_true rfl)⟩ (Nat.le_of_ble_eq_true rfl) rfl dX10_guess_5 (x_pure (fun r2 h => ?_))
  refine x_if_ne (tgt := 15) E dX10_guess_8 (by decide) (fun c4 => ?_) (fun c4 => ?_)
  · replace h := xbr_f h c4
    clear c4
    refine x_aload_n E dX10_guess_15 rfl 0 rfl ?_
    obtain ⟨hT, q5, hv, h⟩ := h
    refine x_get E flX10_35 dX10_guess_16 hT hv ?_
    clear hT hv
    refine x_iload_n E dX10_guess_19 rfl 1 rfl ?_
    refine x_callVi (T := TX6) (N := 3) (t := 7) (As := [.int x1]) E mlX10_136 inX6_stands seX6_stands rfl ⟨by decide, by decide⟩ (tX6_stands h) (kX6_stands l z D cA q5 x1 M _ h) rfl ⟨rfl, rfl⟩ ⟨Nat.le_of_ble_eq_true rfl, Nat.le_of_ble_eq_true rfl⟩ ⟨(Nat.le_of_ble_eq_true rfl), (Nat.le_of_ble_eq_true rfl)⟩ (Nat.le_of_ble_eq_true rfl) rfl dX10_guess_20 (x_pure (fun r6 h => ?_))
    refine x_if_eq (tgt := 45) E dX10_guess_23 (by decide) (fun c8 => ?_) (fun c8 => ?_)
    · replace h := xbr_t h c8
      clear c8
      refine x_sipush (v := (J (-1003))) E dX10_guess_45 (by decide) ?_
      exact x_iret E hr hlk dX10_guess_48 h
    · replace h := xbr_f h c8
      clear c8
      refine x_aload_n E dX10_guess_26 rfl 0 rfl ?_
      obtain ⟨hT, q9, hv, h⟩ := h
      refine x_get E flX10_45 dX10_guess_27 hT hv ?_
      clear hT hv
      refine x_aload_n E dX10_guess_30 rfl 0 rfl ?_
      obtain ⟨hT, q10, hv, h⟩ := h
      refine x_get E flX10_35 dX10_guess_31 hT hv ?_
      clear hT hv
      refine x_aload_n E dX10_guess_34 rfl 0 rfl ?_
      obtain ⟨hT, q11, hv, h⟩ := h
      refine x_get E flX10_21 dX10_guess_35 hT hv ?_
      clear hT hv
      refine x_iload_n E dX10_guess_38 rfl 1 rfl ?_
      refine x_callVi (T := TX9) (N := 1) (t := 10) (As := [.ref q10, .ref q11, .int x1]) E mlX10_225 inX9_readingOf seX9_readingOf rfl ⟨by decide, by decide⟩ (tX9_readingOf h) (kX9_readingOf l z D cA q9 q10 q11 x1 M _ h) rfl ⟨rfl, rfl⟩ ⟨Nat.le_of_ble_eq_true rfl, Nat.le_of_ble_eq_true rfl⟩ ⟨(Nat.le_of_ble_eq_true rfl), (Nat.le_of_ble_eq_true rfl)⟩ (Nat.le_of_ble_eq_true rfl) rfl dX10_guess_39 (fun r12 M13 h => ?_)
      refine x_goto (tgt := 48) E dX10_guess_42 (by decide) ?_
      exact x_iret E hr hlk dX10_guess_48 h
  · replace h := xbr_t h c4
    clear c4
    refine x_sipush (v := (J (-1001))) E dX10_guess_11 (by decide) ?_
    exact x_iret E hr hlk dX10_guess_14 h
theorem dX10_lay_0 : decode cX10_lay 0 = .ok (.iload_n 1, 1) := by decide +kernel
theorem dX10_lay_1 : decode cX10_lay 1 = .ok (.ifCond .lt 9, 3) := by decide +kernel
theorem dX10_lay_4 : decode cX10_lay 4 = .ok (.iload_n 1, 1) := by decide +kernel
theorem dX10_lay_5 : decode cX10_lay 5 = .ok (.bipush 30, 2) := by decide +kernel
theorem dX10_lay_7 : decode cX10_lay 7 = .ok (.if_icmp .le 7, 3) := by decide +kernel
theorem dX10_lay_10 : decode cX10_lay 10 = .ok (.sipush (-1002), 3) := by decide +kernel
theorem dX10_lay_13 : decode cX10_lay 13 = .ok (.ireturn, 1) := by decide +kernel
theorem dX10_lay_14 : decode cX10_lay 14 = .ok (.aload_n 0, 1) := by decide +kernel
theorem dX10_lay_15 : decode cX10_lay 15 = .ok (.getfield 28, 3) := by decide +kernel
theorem dX10_lay_18 : decode cX10_lay 18 = .ok (.aload_n 0, 1) := by decide +kernel
theorem dX10_lay_19 : decode cX10_lay 19 = .ok (.getfield 39, 3) := by decide +kernel
theorem dX10_lay_22 : decode cX10_lay 22 = .ok (.aload_n 0, 1) := by decide +kernel
theorem dX10_lay_23 : decode cX10_lay 23 = .ok (.getfield 35, 3) := by decide +kernel
theorem dX10_lay_26 : decode cX10_lay 26 = .ok (.aload_n 0, 1) := by decide +kernel
theorem dX10_lay_27 : decode cX10_lay 27 = .ok (.getfield 21, 3) := by decide +kernel
theorem dX10_lay_30 : decode cX10_lay 30 = .ok (.iload_n 1, 1) := by decide +kernel
theorem dX10_lay_31 : decode cX10_lay 31 = .ok (.invokevirtual 228, 3) := by decide +kernel
theorem dX10_lay_34 : decode cX10_lay 34 = .ok (.ifCond .ne 7, 3) := by decide +kernel
theorem dX10_lay_37 : decode cX10_lay 37 = .ok (.sipush (-1003), 3) := by decide +kernel
theorem dX10_lay_40 : decode cX10_lay 40 = .ok (.ireturn, 1) := by decide +kernel
theorem dX10_lay_41 : decode cX10_lay 41 = .ok (.aload_n 0, 1) := by decide +kernel
theorem dX10_lay_42 : decode cX10_lay 42 = .ok (.getfield 35, 3) := by decide +kernel
theorem dX10_lay_45 : decode cX10_lay 45 = .ok (.aload_n 0, 1) := by decide +kernel
theorem dX10_lay_46 : decode cX10_lay 46 = .ok (.getfield 39, 3) := by decide +kernel
theorem dX10_lay_49 : decode cX10_lay 49 = .ok (.invokevirtual 232, 3) := by decide +kernel
theorem dX10_lay_52 : decode cX10_lay 52 = .ok (.istore_n 2, 1) := by decide +kernel
theorem dX10_lay_53 : decode cX10_lay 53 = .ok (.aload_n 0, 1) := by decide +kernel
theorem dX10_lay_54 : decode cX10_lay 54 = .ok (.getfield 35, 3) := by decide +kernel
theorem dX10_lay_57 : decode cX10_lay 57 = .ok (.aload_n 0, 1) := by decide +kernel
theorem dX10_lay_58 : decode cX10_lay 58 = .ok (.getfield 39, 3) := by decide +kernel
theorem dX10_lay_61 : decode cX10_lay 61 = .ok (.invokevirtual 214, 3) := by decide +kernel
theorem dX10_lay_64 : decode cX10_lay 64 = .ok (.iload_n 2, 1) := by decide +kernel
theorem dX10_lay_65 : decode cX10_lay 65 = .ok (.ireturn, 1) := by decide +kernel
set_option maxHeartbeats 4000000 in
set_option maxRecDepth 100000 in
theorem kX10_lay (l : Launch) (z : Nat) (D : va_G) (cA : Nat → ClassId) (a0 : Nat) (x1 : Int32) (M : Mem) (K : Int32 → Mem → Prop) (h : PX10_lay a0 x1 M K) : Met l yX10_lay (.code yX10_lay cX10_lay 3 (some .int) :: gtbl) ({ frames := 5, cells := 0, slots := 0, locals := 122 } : Room) (va_Pc [.ref a0, .int x1] (xB z D cA M)) (va_Qi K (xWd z D cA) (xA z)) 0 0 (xA z) := by
  refine x_met (by decide +kernel) (Nat.le_of_ble_eq_true rfl) (L0 := [(0, .ref a0), (1, .int x1)]) rfl ?_
  intro p e s m args below meth c E hr hlk hnm
  have E : xE RX10 cX10_lay 3 D cA p s m args c := E
  replace h := h.2
  refine x_iload_n E dX10_lay_0 rfl 1 rfl ?_
  refine x_if_lt (tgt := 10) E dX10_lay_1 (by decide) (fun c1 => ?_) (fun c1 => ?_)
  · replace h := xbr_t h c1
    clear c1
    refine x_sipush (v := (J (-1002))) E dX10_lay_10 (by decide) ?_
    exact x_iret E hr hlk dX10_lay_13 h
  · replace h := xbr_f h c1
    clear c1
    refine x_iload_n E dX10_lay_4 rfl 1 rfl ?_
    refine x_bipush (v := (J 30)) E dX10_lay_5 (by decide) ?_
    refine x_icmp_le (tgt := 14) E dX10_lay_7 (by decide) (fun c2 => ?_) (fun c2 => ?_)
    · replace h := xbr_t h c2
      clear c2
      refine x_aload_n E dX10_lay_14 rfl 0 rfl ?_
      obtain ⟨hT, q3, hv, h⟩ := h
      refine x_get E flX10_28 dX10_lay_15 hT hv ?_
      clear hT hv
      refine x_aload_n E dX10_lay_18 rfl 0 rfl ?_
      obtain ⟨hT, q4, hv, h⟩ := h
      refine x_get E flX10_39 dX10_lay_19 hT hv ?_
      clear hT hv
      refine x_aload_n E dX10_lay_22 rfl 0 rfl ?_
      obtain ⟨hT, q5, hv, h⟩ := h
      refine x_get E flX10_35 dX10_lay_23 hT hv ?_
      clear hT hv
      refine x_aload_n E dX10_lay_26 rfl 0 rfl ?_
      obtain ⟨hT, q6, hv, h⟩ := h
      refine x_get E flX10_21 dX10_lay_27 hT hv ?_
      clear hT hv
      refine x_iload_n E dX10_lay_30 rfl 1 rfl ?_
      refine x_callVi (T := TX8) (N := 1) (t := 9) (As := [.ref q4, .ref q5, .ref q6, .int x1]) E mlX10_228 inX8_layAnew seX8_layAnew rfl ⟨by decide, by decide⟩ (tX8_layAnew h) (kX8_layAnew l z D cA q3 q4 q5 q6 x1 M _ h) rfl ⟨rfl, rfl⟩ ⟨Nat.le_of_ble_eq_true rfl, Nat.le_of_ble_eq_true rfl⟩ ⟨(Nat.le_of_ble_eq_true rfl), (Nat.le_of_ble_eq_true rfl)⟩ (Nat.le_of_ble_eq_true rfl) rfl dX10_lay_31 (fun r7 M8 h => ?_)
      refine x_if_ne (tgt := 41) E dX10_lay_34 (by decide) (fun c9 => ?_) (fun c9 => ?_)
      · replace h := xbr_f h c9
        clear c9
        refine x_aload_n E dX10_lay_41 rfl 0 rfl ?_
        obtain ⟨hT, q10, hv, h⟩ := h
        refine x_get E flX10_35 dX10_lay_42 hT hv ?_
        clear hT hv
        refine x_aload_n E dX10_lay_45 rfl 0 rfl ?_
        obtain ⟨hT, q11, hv, h⟩ := h
        refine x_get E flX10_39 dX10_lay_46 hT hv ?_
        clear hT hv
        refine x_callVi (T := TX6) (N := 3) (t := 7) (As := [.ref q11]) E mlX10_232 inX6_carriedTo seX6_carriedTo rfl ⟨by decide, by decide⟩ (tX6_carriedTo h) (kX6_carriedTo l z D cA q10 q11 M8 _ h) rfl ⟨rfl, rfl⟩ ⟨Nat.le_of_ble_eq_true rfl, Nat.le_of_ble_eq_true rfl⟩ ⟨(Nat.le_of_ble_eq_true rfl), (Nat.le_of_ble_eq_true rfl)⟩ (Nat.le_of_ble_eq_true rfl) rfl dX10_lay_49 (x_pure (fun r12 h => ?_))
        refine x_istore_n (L' := [(2, .int r12), (0, .ref a0), (1, .int x1)]) E dX10_lay_52 rfl (by decide) rfl ?_
        refine x_aload_n E dX10_lay_53 rfl 1 rfl ?_
        obtain ⟨hT, q14, hv, h⟩ := h
        refine x_get E flX10_35 dX10_lay_54 hT hv ?_
        clear hT hv
        refine x_aload_n E dX10_lay_57 rfl 1 rfl ?_
        obtain ⟨hT, q15, hv, h⟩ := h
        refine x_get E flX10_39 dX10_lay_58 hT hv ?_
        clear hT hv
        refine x_callVv (T := TX6) (N := 3) (t := 7) (As := [.ref q15]) E mlX10_214 inX6_copyFrom seX6_copyFrom rfl ⟨by decide, by decide⟩ (tX6_copyFrom h) (kX6_copyFrom l z D cA q14 q15 M8 _ h) rfl ⟨rfl, rfl⟩ ⟨Nat.le_of_ble_eq_true rfl, Nat.le_of_ble_eq_true rfl⟩ ⟨(Nat.le_of_ble_eq_true rfl), (Nat.le_of_ble_eq_true rfl)⟩ (Nat.le_of_ble_eq_true rfl) rfl dX10_lay_61 (fun M17 h => ?_)
        refine x_iload_n E dX10_lay_64 rfl 0 rfl ?_
        exact x_iret E hr hlk dX10_lay_65 h
      · replace h := xbr_t h c9
        clear c9
        refine x_sipush (v := (J (-1003))) E dX10_lay_37 (by decide) ?_
        exact x_iret E hr hlk dX10_lay_40 h
    · replace h := xbr_f h c2
      clear c2
      refine x_sipush (v := (J (-1002))) E dX10_lay_10 (by decide) ?_
      exact x_iret E hr hlk dX10_lay_13 h
theorem dX10_tryRoom_0 : decode cX10_tryRoom 0 = .ok (.aload_n 0, 1) := by decide +kernel
theorem dX10_tryRoom_1 : decode cX10_tryRoom 1 = .ok (.getfield 39, 3) := by decide +kernel
theorem dX10_tryRoom_4 : decode cX10_tryRoom 4 = .ok (.aload_n 0, 1) := by decide +kernel
theorem dX10_tryRoom_5 : decode cX10_tryRoom 5 = .ok (.getfield 35, 3) := by decide +kernel
theorem dX10_tryRoom_8 : decode cX10_tryRoom 8 = .ok (.invokevirtual 214, 3) := by decide +kernel
theorem dX10_tryRoom_11 : decode cX10_tryRoom 11 = .ok (.aload_n 0, 1) := by decide +kernel
theorem dX10_tryRoom_12 : decode cX10_tryRoom 12 = .ok (.getfield 28, 3) := by decide +kernel
theorem dX10_tryRoom_15 : decode cX10_tryRoom 15 = .ok (.aload_n 0, 1) := by decide +kernel
theorem dX10_tryRoom_16 : decode cX10_tryRoom 16 = .ok (.getfield 39, 3) := by decide +kernel
theorem dX10_tryRoom_19 : decode cX10_tryRoom 19 = .ok (.aload_n 0, 1) := by decide +kernel
theorem dX10_tryRoom_20 : decode cX10_tryRoom 20 = .ok (.getfield 21, 3) := by decide +kernel
theorem dX10_tryRoom_23 : decode cX10_tryRoom 23 = .ok (.iload_n 1, 1) := by decide +kernel
theorem dX10_tryRoom_24 : decode cX10_tryRoom 24 = .ok (.iload_n 2, 1) := by decide +kernel
theorem dX10_tryRoom_25 : decode cX10_tryRoom 25 = .ok (.iload_n 3, 1) := by decide +kernel
theorem dX10_tryRoom_26 : decode cX10_tryRoom 26 = .ok (.invokevirtual 240, 3) := by decide +kernel
theorem dX10_tryRoom_29 : decode cX10_tryRoom 29 = .ok (.ifCond .eq 17, 3) := by decide +kernel
theorem dX10_tryRoom_32 : decode cX10_tryRoom 32 = .ok (.aload_n 0, 1) := by decide +kernel
theorem dX10_tryRoom_33 : decode cX10_tryRoom 33 = .ok (.getfield 35, 3) := by decide +kernel
theorem dX10_tryRoom_36 : decode cX10_tryRoom 36 = .ok (.aload_n 0, 1) := by decide +kernel
theorem dX10_tryRoom_37 : decode cX10_tryRoom 37 = .ok (.getfield 39, 3) := by decide +kernel
theorem dX10_tryRoom_40 : decode cX10_tryRoom 40 = .ok (.invokevirtual 232, 3) := by decide +kernel
theorem dX10_tryRoom_43 : decode cX10_tryRoom 43 = .ok (.goto 6, 3) := by decide +kernel
theorem dX10_tryRoom_46 : decode cX10_tryRoom 46 = .ok (.sipush (-1003), 3) := by decide +kernel
theorem dX10_tryRoom_49 : decode cX10_tryRoom 49 = .ok (.ireturn, 1) := by decide +kernel
set_option maxHeartbeats 4000000 in
set_option maxRecDepth 100000 in
theorem kX10_tryRoom (l : Launch) (z : Nat) (D : va_G) (cA : Nat → ClassId) (a0 : Nat) (x1 : Int32) (x2 : Int32) (x3 : Int32) (M : Mem) (K : Int32 → Mem → Prop) (h : PX10_tryRoom a0 x1 x2 x3 M K) : Met l yX10_tryRoom (.code yX10_tryRoom cX10_tryRoom 4 (some .int) :: gtbl) ({ frames := 4, cells := 0, slots := 0, locals := 102 } : Room) (va_Pc [.ref a0, .int x1, .int x2, .int x3] (xB z D cA M)) (va_Qi K (xWd z D cA) (xA z)) 0 0 (xA z) := by
  refine x_met (by decide +kernel) (Nat.le_of_ble_eq_true rfl) (L0 := [(0, .ref a0), (1, .int x1), (2, .int x2), (3, .int x3)]) rfl ?_
  intro p e s m args below meth c E hr hlk hnm
  have E : xE RX10 cX10_tryRoom 4 D cA p s m args c := E
  replace h := h.2
  refine x_aload_n E dX10_tryRoom_0 rfl 0 rfl ?_
  obtain ⟨hT, q1, hv, h⟩ := h
  refine x_get E flX10_39 dX10_tryRoom_1 hT hv ?_
  clear hT hv
  refine x_aload_n E dX10_tryRoom_4 rfl 0 rfl ?_
  obtain ⟨hT, q2, hv, h⟩ := h
  refine x_get E flX10_35 dX10_tryRoom_5 hT hv ?_
  clear hT hv
  refine x_callVv (T := TX6) (N := 3) (t := 7) (As := [.ref q2]) E mlX10_214 inX6_copyFrom seX6_copyFrom rfl ⟨by decide, by decide⟩ (tX6_copyFrom h) (kX6_copyFrom l z D cA q1 q2 M _ h) rfl ⟨rfl, rfl⟩ ⟨Nat.le_of_ble_eq_true rfl, Nat.le_of_ble_eq_true rfl⟩ ⟨(Nat.le_of_ble_eq_true rfl), (Nat.le_of_ble_eq_true rfl)⟩ (Nat.le_of_ble_eq_true rfl) rfl dX10_tryRoom_8 (fun M4 h => ?_)
  refine x_aload_n E dX10_tryRoom_11 rfl 0 rfl ?_
  obtain ⟨hT, q5, hv, h⟩ := h
  refine x_get E flX10_28 dX10_tryRoom_12 hT hv ?_
  clear hT hv
  refine x_aload_n E dX10_tryRoom_15 rfl 0 rfl ?_
  obtain ⟨hT, q6, hv, h⟩ := h
  refine x_get E flX10_39 dX10_tryRoom_16 hT hv ?_
  clear hT hv
  refine x_aload_n E dX10_tryRoom_19 rfl 0 rfl ?_
  obtain ⟨hT, q7, hv, h⟩ := h
  refine x_get E flX10_21 dX10_tryRoom_20 hT hv ?_
  clear hT hv
  refine x_iload_n E dX10_tryRoom_23 rfl 1 rfl ?_
  refine x_iload_n E dX10_tryRoom_24 rfl 2 rfl ?_
  refine x_iload_n E dX10_tryRoom_25 rfl 3 rfl ?_
  refine x_callVi (T := TX8) (N := 1) (t := 9) (As := [.ref q6, .ref q7, .int x1, .int x2, .int x3]) E mlX10_240 inX8_pushAway seX8_pushAway rfl ⟨by decide, by decide⟩ (tX8_pushAway h) (kX8_pushAway l z D cA q5 q6 q7 x1 x2 x3 M4 _ h) rfl ⟨rfl, rfl⟩ ⟨Nat.le_of_ble_eq_true rfl, Nat.le_of_ble_eq_true rfl⟩ ⟨(Nat.le_of_ble_eq_true rfl), (Nat.le_of_ble_eq_true rfl)⟩ (Nat.le_of_ble_eq_true rfl) rfl dX10_tryRoom_26 (fun r8 M9 h => ?_)
  refine x_if_eq (tgt := 46) E dX10_tryRoom_29 (by decide) (fun c10 => ?_) (fun c10 => ?_)
  · replace h := xbr_t h c10
    clear c10
    refine x_sipush (v := (J (-1003))) E dX10_tryRoom_46 (by decide) ?_
    exact x_iret E hr hlk dX10_tryRoom_49 h
  · replace h := xbr_f h c10
    clear c10
    refine x_aload_n E dX10_tryRoom_32 rfl 0 rfl ?_
    obtain ⟨hT, q11, hv, h⟩ := h
    refine x_get E flX10_35 dX10_tryRoom_33 hT hv ?_
    clear hT hv
    refine x_aload_n E dX10_tryRoom_36 rfl 0 rfl ?_
    obtain ⟨hT, q12, hv, h⟩ := h
    refine x_get E flX10_39 dX10_tryRoom_37 hT hv ?_
    clear hT hv
    refine x_callVi (T := TX6) (N := 3) (t := 7) (As := [.ref q12]) E mlX10_232 inX6_carriedTo seX6_carriedTo rfl ⟨by decide, by decide⟩ (tX6_carriedTo h) (kX6_carriedTo l z D cA q11 q12 M9 _ h) rfl ⟨rfl, rfl⟩ ⟨Nat.le_of_ble_eq_true rfl, Nat.le_of_ble_eq_true rfl⟩ ⟨(Nat.le_of_ble_eq_true rfl), (Nat.le_of_ble_eq_true rfl)⟩ (Nat.le_of_ble_eq_true rfl) rfl dX10_tryRoom_40 (x_pure (fun r13 h => ?_))
    refine x_goto (tgt := 49) E dX10_tryRoom_43 (by decide) ?_
    exact x_iret E hr hlk dX10_tryRoom_49 h
theorem dX10_make_0 : decode cX10_make 0 = .ok (.iload_n 1, 1) := by decide +kernel
theorem dX10_make_1 : decode cX10_make 1 = .ok (.invokestatic 176, 3) := by decide +kernel
theorem dX10_make_4 : decode cX10_make 4 = .ok (.ifCond .ne 7, 3) := by decide +kernel
theorem dX10_make_7 : decode cX10_make 7 = .ok (.sipush (-1001), 3) := by decide +kernel
theorem dX10_make_10 : decode cX10_make 10 = .ok (.ireturn, 1) := by decide +kernel
theorem dX10_make_11 : decode cX10_make 11 = .ok (.iload_n 2, 1) := by decide +kernel
theorem dX10_make_12 : decode cX10_make 12 = .ok (.iconst 1, 1) := by decide +kernel
theorem dX10_make_13 : decode cX10_make 13 = .ok (.if_icmp .lt 9, 3) := by decide +kernel
theorem dX10_make_16 : decode cX10_make 16 = .ok (.iload_n 2, 1) := by decide +kernel
theorem dX10_make_17 : decode cX10_make 17 = .ok (.bipush 30, 2) := by decide +kernel
theorem dX10_make_19 : decode cX10_make 19 = .ok (.if_icmp .le 7, 3) := by decide +kernel
theorem dX10_make_22 : decode cX10_make 22 = .ok (.sipush (-1002), 3) := by decide +kernel
theorem dX10_make_25 : decode cX10_make 25 = .ok (.ireturn, 1) := by decide +kernel
theorem dX10_make_26 : decode cX10_make 26 = .ok (.aload_n 0, 1) := by decide +kernel
theorem dX10_make_27 : decode cX10_make 27 = .ok (.iload_n 1, 1) := by decide +kernel
theorem dX10_make_28 : decode cX10_make 28 = .ok (.iload_n 2, 1) := by decide +kernel
theorem dX10_make_29 : decode cX10_make 29 = .ok (.iconst 1, 1) := by decide +kernel
theorem dX10_make_30 : decode cX10_make 30 = .ok (.invokevirtual 236, 3) := by decide +kernel
theorem dX10_make_33 : decode cX10_make 33 = .ok (.istore 4, 2) := by decide +kernel
theorem dX10_make_35 : decode cX10_make 35 = .ok (.aload_n 0, 1) := by decide +kernel
theorem dX10_make_36 : decode cX10_make 36 = .ok (.iload_n 1, 1) := by decide +kernel
theorem dX10_make_37 : decode cX10_make 37 = .ok (.iload_n 2, 1) := by decide +kernel
theorem dX10_make_38 : decode cX10_make 38 = .ok (.iconst (-1), 1) := by decide +kernel
theorem dX10_make_39 : decode cX10_make 39 = .ok (.invokevirtual 236, 3) := by decide +kernel
theorem dX10_make_42 : decode cX10_make 42 = .ok (.istore 5, 2) := by decide +kernel
theorem dX10_make_44 : decode cX10_make 44 = .ok (.iload 5, 2) := by decide +kernel
theorem dX10_make_46 : decode cX10_make 46 = .ok (.sipush (-1003), 3) := by decide +kernel
theorem dX10_make_49 : decode cX10_make 49 = .ok (.if_icmp .eq 22, 3) := by decide +kernel
theorem dX10_make_52 : decode cX10_make 52 = .ok (.iload 4, 2) := by decide +kernel
theorem dX10_make_54 : decode cX10_make 54 = .ok (.sipush (-1003), 3) := by decide +kernel
theorem dX10_make_57 : decode cX10_make 57 = .ok (.if_icmp .eq 10, 3) := by decide +kernel
theorem dX10_make_60 : decode cX10_make 60 = .ok (.iload 5, 2) := by decide +kernel
theorem dX10_make_62 : decode cX10_make 62 = .ok (.iload 4, 2) := by decide +kernel
theorem dX10_make_64 : decode cX10_make 64 = .ok (.if_icmp .ge 7, 3) := by decide +kernel
theorem dX10_make_67 : decode cX10_make 67 = .ok (.iconst 1, 1) := by decide +kernel
theorem dX10_make_68 : decode cX10_make 68 = .ok (.goto 4, 3) := by decide +kernel
theorem dX10_make_71 : decode cX10_make 71 = .ok (.iconst 0, 1) := by decide +kernel
theorem dX10_make_72 : decode cX10_make 72 = .ok (.istore 6, 2) := by decide +kernel
theorem dX10_make_74 : decode cX10_make 74 = .ok (.iload 6, 2) := by decide +kernel
theorem dX10_make_76 : decode cX10_make 76 = .ok (.ifCond .eq 8, 3) := by decide +kernel
theorem dX10_make_79 : decode cX10_make 79 = .ok (.iload 5, 2) := by decide +kernel
theorem dX10_make_81 : decode cX10_make 81 = .ok (.goto 5, 3) := by decide +kernel
theorem dX10_make_84 : decode cX10_make 84 = .ok (.iload 4, 2) := by decide +kernel
theorem dX10_make_86 : decode cX10_make 86 = .ok (.istore 7, 2) := by decide +kernel
theorem dX10_make_88 : decode cX10_make 88 = .ok (.iload_n 3, 1) := by decide +kernel
theorem dX10_make_89 : decode cX10_make 89 = .ok (.ifCond .eq 39, 3) := by decide +kernel
theorem dX10_make_92 : decode cX10_make 92 = .ok (.iload 7, 2) := by decide +kernel
theorem dX10_make_94 : decode cX10_make 94 = .ok (.sipush (-1003), 3) := by decide +kernel
theorem dX10_make_97 : decode cX10_make 97 = .ok (.if_icmp .eq 31, 3) := by decide +kernel
theorem dX10_make_100 : decode cX10_make 100 = .ok (.aload_n 0, 1) := by decide +kernel
theorem dX10_make_101 : decode cX10_make 101 = .ok (.getfield 28, 3) := by decide +kernel
theorem dX10_make_104 : decode cX10_make 104 = .ok (.aload_n 0, 1) := by decide +kernel
theorem dX10_make_105 : decode cX10_make 105 = .ok (.getfield 35, 3) := by decide +kernel
theorem dX10_make_108 : decode cX10_make 108 = .ok (.aload_n 0, 1) := by decide +kernel
theorem dX10_make_109 : decode cX10_make 109 = .ok (.getfield 21, 3) := by decide +kernel
theorem dX10_make_112 : decode cX10_make 112 = .ok (.iload_n 1, 1) := by decide +kernel
theorem dX10_make_113 : decode cX10_make 113 = .ok (.iload_n 2, 1) := by decide +kernel
theorem dX10_make_114 : decode cX10_make 114 = .ok (.iload 6, 2) := by decide +kernel
theorem dX10_make_116 : decode cX10_make 116 = .ok (.ifCond .eq 7, 3) := by decide +kernel
theorem dX10_make_119 : decode cX10_make 119 = .ok (.iconst (-1), 1) := by decide +kernel
theorem dX10_make_120 : decode cX10_make 120 = .ok (.goto 4, 3) := by decide +kernel
theorem dX10_make_123 : decode cX10_make 123 = .ok (.iconst 1, 1) := by decide +kernel
theorem dX10_make_124 : decode cX10_make 124 = .ok (.invokevirtual 240, 3) := by decide +kernel
theorem dX10_make_127 : decode cX10_make 127 = .ok (.pop, 1) := by decide +kernel
theorem dX10_make_128 : decode cX10_make 128 = .ok (.iload 7, 2) := by decide +kernel
theorem dX10_make_130 : decode cX10_make 130 = .ok (.ireturn, 1) := by decide +kernel
set_option maxHeartbeats 4000000 in
set_option maxRecDepth 100000 in
theorem kX10_make (l : Launch) (z : Nat) (D : va_G) (cA : Nat → ClassId) (a0 : Nat) (x1 : Int32) (x2 : Int32) (x3 : Int32) (M : Mem) (K : Int32 → Mem → Prop) (h : PX10_make a0 x1 x2 x3 M K) : Met l yX10_make (.code yX10_make cX10_make 8 (some .int) :: gtbl) ({ frames := 5, cells := 0, slots := 0, locals := 125 } : Room) (va_Pc [.ref a0, .int x1, .int x2, .int x3] (xB z D cA M)) (va_Qi K (xWd z D cA) (xA z)) 0 0 (xA z) := by
  refine x_met (by decide +kernel) (Nat.le_of_ble_eq_true rfl) (L0 := [(0, .ref a0), (1, .int x1), (2, .int x2), (3, .int x3)]) rfl ?_
  intro p e s m args below meth c E hr hlk hnm
  have E : xE RX10 cX10_make 8 D cA p s m args c := E
  have hJ124 : ∀ (M : Mem) (j7 : Int32) (s0 : Int32) (s1 : Int32) (s2 : Int32) (s3 : Nat) (s4 : Nat) (s5 : Nat), JX10_make_124 K M j7 s0 s1 s2 s3 s4 s5 → xG p l e ({ frames := 5, cells := 0, slots := 0, locals := 125 } : Room) s m args below meth c (MQ below (va_Qi K (xWd z D cA) (xA z)) args s 0 0 (xA z)) 8 z D cA M (0) (0) 124 [(7, .int j7)] [.int s0, .int s1, .int s2, .ref s3, .ref s4, .ref s5] := by
    intro M j7 s0 s1 s2 s3 s4 s5 h
    refine x_callVi (T := TX8) (N := 1) (t := 9) (As := [.ref s4, .ref s3, .int s2, .int s1, .int s0]) E mlX10_240 inX8_pushAway seX8_pushAway rfl ⟨by decide, by decide⟩ (tX8_pushAway h) (kX8_pushAway l z D cA s5 s4 s3 s2 s1 s0 M _ h) rfl ⟨rfl, rfl⟩ ⟨Nat.le_of_ble_eq_true rfl, Nat.le_of_ble_eq_true rfl⟩ ⟨(Nat.le_of_ble_eq_true rfl), (Nat.le_of_ble_eq_true rfl)⟩ (Nat.le_of_ble_eq_true rfl) rfl dX10_make_124 (fun r18 M19 h => ?_)
    refine x_pop E dX10_make_127 rfl ?_
    refine x_iload E dX10_make_128 0 rfl ?_
    exact x_iret E hr hlk dX10_make_130 h
  have hJ86 : ∀ (M : Mem) (j0 : Nat) (j1 : Int32) (j2 : Int32) (j3 : Int32) (j6 : Int32) (s0 : Int32), JX10_make_86 K M j0 j1 j2 j3 j6 s0 → xG p l e ({ frames := 5, cells := 0, slots := 0, locals := 125 } : Room) s m args below meth c (MQ below (va_Qi K (xWd z D cA) (xA z)) args s 0 0 (xA z)) 8 z D cA M (0) (0) 86 [(0, .ref j0), (1, .int j1), (2, .int j2), (3, .int j3), (6, .int j6)] [.int s0] := by
    intro M j0 j1 j2 j3 j6 s0 h
    refine x_istore (L' := [(7, .int s0), (0, .ref j0), (1, .int j1), (2, .int j2), (3, .int j3), (6, .int j6)]) E dX10_make_86 (by decide) rfl ?_
    refine x_iload_n E dX10_make_88 rfl 4 rfl ?_
    refine x_if_eq (tgt := 128) E dX10_make_89 (by decide) (fun c12 => ?_) (fun c12 => ?_)
    · replace h := xbr_t h c12
      clear c12
      refine x_iload E dX10_make_128 0 rfl ?_
      exact x_iret E hr hlk dX10_make_130 h
    · replace h := xbr_f h c12
      clear c12
      refine x_iload E dX10_make_92 0 rfl ?_
      refine x_sipush (v := (J (-1003))) E dX10_make_94 (by decide) ?_
      refine x_icmp_eq (tgt := 128) E dX10_make_97 (by decide) (fun c13 => ?_) (fun c13 => ?_)
      · replace h := xbr_t h c13
        clear c13
        refine x_iload E dX10_make_128 0 rfl ?_
        exact x_iret E hr hlk dX10_make_130 h
      · replace h := xbr_f h c13
        clear c13
        refine x_aload_n E dX10_make_100 rfl 1 rfl ?_
        obtain ⟨hT, q14, hv, h⟩ := h
        refine x_get E flX10_28 dX10_make_101 hT hv ?_
        clear hT hv
        refine x_aload_n E dX10_make_104 rfl 1 rfl ?_
        obtain ⟨hT, q15, hv, h⟩ := h
        refine x_get E flX10_35 dX10_make_105 hT hv ?_
        clear hT hv
        refine x_aload_n E dX10_make_108 rfl 1 rfl ?_
        obtain ⟨hT, q16, hv, h⟩ := h
        refine x_get E flX10_21 dX10_make_109 hT hv ?_
        clear hT hv
        refine x_iload_n E dX10_make_112 rfl 2 rfl ?_
        refine x_iload_n E dX10_make_113 rfl 3 rfl ?_
        refine x_iload E dX10_make_114 5 rfl ?_
        refine x_if_eq (tgt := 123) E dX10_make_116 (by decide) (fun c17 => ?_) (fun c17 => ?_)
        · replace h := xbr_t h c17
          clear c17
          refine x_iconst (v := (J 1)) E dX10_make_123 (by decide) ?_
          refine x_sub (L' := [(7, .int s0)]) [0] rfl ?_
          exact hJ124 M s0 (J 1) j2 j1 q16 q15 q14 h
        · replace h := xbr_f h c17
          clear c17
          refine x_iconst (v := (J (-1))) E dX10_make_119 (by decide) ?_
          refine x_goto (tgt := 124) E dX10_make_120 (by decide) ?_
          refine x_sub (L' := [(7, .int s0)]) [0] rfl ?_
          exact hJ124 M s0 (J (-1)) j2 j1 q16 q15 q14 h
  have hJ72 : ∀ (M : Mem) (j0 : Nat) (j1 : Int32) (j2 : Int32) (j3 : Int32) (j4 : Int32) (j5 : Int32) (s0 : Int32), JX10_make_72 K M j0 j1 j2 j3 j4 j5 s0 → xG p l e ({ frames := 5, cells := 0, slots := 0, locals := 125 } : Room) s m args below meth c (MQ below (va_Qi K (xWd z D cA) (xA z)) args s 0 0 (xA z)) 8 z D cA M (0) (0) 72 [(0, .ref j0), (1, .int j1), (2, .int j2), (3, .int j3), (4, .int j4), (5, .int j5)] [.int s0] := by
    intro M j0 j1 j2 j3 j4 j5 s0 h
    refine x_istore (L' := [(6, .int s0), (0, .ref j0), (1, .int j1), (2, .int j2), (3, .int j3), (4, .int j4), (5, .int j5)]) E dX10_make_72 (by decide) rfl ?_
    refine x_iload E dX10_make_74 0 rfl ?_
    refine x_if_eq (tgt := 84) E dX10_make_76 (by decide) (fun c11 => ?_) (fun c11 => ?_)
    · replace h := xbr_t h c11
      clear c11
      refine x_iload E dX10_make_84 5 rfl ?_
      refine x_sub (L' := [(0, .ref j0), (1, .int j1), (2, .int j2), (3, .int j3), (6, .int s0)]) [1, 2, 3, 4, 0] rfl ?_
      exact hJ86 M j0 j1 j2 j3 s0 j4 h
    · replace h := xbr_f h c11
      clear c11
      refine x_iload E dX10_make_79 6 rfl ?_
      refine x_goto (tgt := 86) E dX10_make_81 (by decide) ?_
      refine x_sub (L' := [(0, .ref j0), (1, .int j1), (2, .int j2), (3, .int j3), (6, .int s0)]) [1, 2, 3, 4, 0] rfl ?_
      exact hJ86 M j0 j1 j2 j3 s0 j5 h
  have hJ71 : ∀ (M : Mem) (j0 : Nat) (j1 : Int32) (j2 : Int32) (j3 : Int32) (j4 : Int32) (j5 : Int32), JX10_make_71 K M j0 j1 j2 j3 j4 j5 → xG p l e ({ frames := 5, cells := 0, slots := 0, locals := 125 } : Room) s m args below meth c (MQ below (va_Qi K (xWd z D cA) (xA z)) args s 0 0 (xA z)) 8 z D cA M (0) (0) 71 [(0, .ref j0), (1, .int j1), (2, .int j2), (3, .int j3), (4, .int j4), (5, .int j5)] [] := by
    intro M j0 j1 j2 j3 j4 j5 h
    refine x_iconst (v := (J 0)) E dX10_make_71 (by decide) ?_
    exact hJ72 M j0 j1 j2 j3 j4 j5 (J 0) h
  have hJ67 : ∀ (M : Mem) (j0 : Nat) (j1 : Int32) (j2 : Int32) (j3 : Int32) (j4 : Int32) (j5 : Int32), JX10_make_67 K M j0 j1 j2 j3 j4 j5 → xG p l e ({ frames := 5, cells := 0, slots := 0, locals := 125 } : Room) s m args below meth c (MQ below (va_Qi K (xWd z D cA) (xA z)) args s 0 0 (xA z)) 8 z D cA M (0) (0) 67 [(0, .ref j0), (1, .int j1), (2, .int j2), (3, .int j3), (4, .int j4), (5, .int j5)] [] := by
    intro M j0 j1 j2 j3 j4 j5 h
    refine x_iconst (v := (J 1)) E dX10_make_67 (by decide) ?_
    refine x_goto (tgt := 72) E dX10_make_68 (by decide) ?_
    exact hJ72 M j0 j1 j2 j3 j4 j5 (J 1) h
  replace h := h.2
  refine x_iload_n E dX10_make_0 rfl 1 rfl ?_
  refine x_callSi (As := [.int x1]) E mlX10_176 rfl stX10_isShelf (kX10_isShelf l z D cA x1 M _ h) rfl ⟨rfl, rfl⟩ ⟨Nat.le_of_ble_eq_true rfl, Nat.le_of_ble_eq_true rfl⟩ ⟨(Nat.le_of_ble_eq_true rfl), (Nat.le_of_ble_eq_true rfl)⟩ (Nat.le_of_ble_eq_true rfl) rfl dX10_make_1 (x_pure (fun r1 h => ?_))
  refine x_if_ne (tgt := 11) E dX10_make_4 (by decide) (fun c3 => ?_) (fun c3 => ?_)
  · replace h := xbr_f h c3
    clear c3
    refine x_iload_n E dX10_make_11 rfl 2 rfl ?_
    refine x_iconst (v := (J 1)) E dX10_make_12 (by decide) ?_
    refine x_icmp_lt (tgt := 22) E dX10_make_13 (by decide) (fun c4 => ?_) (fun c4 => ?_)
    · replace h := xbr_t h c4
      clear c4
      refine x_sipush (v := (J (-1002))) E dX10_make_22 (by decide) ?_
      exact x_iret E hr hlk dX10_make_25 h
    · replace h := xbr_f h c4
      clear c4
      refine x_iload_n E dX10_make_16 rfl 2 rfl ?_
      refine x_bipush (v := (J 30)) E dX10_make_17 (by decide) ?_
      refine x_icmp_le (tgt := 26) E dX10_make_19 (by decide) (fun c5 => ?_) (fun c5 => ?_)
      · replace h := xbr_t h c5
        clear c5
        refine x_aload_n E dX10_make_26 rfl 0 rfl ?_
        refine x_iload_n E dX10_make_27 rfl 1 rfl ?_
        refine x_iload_n E dX10_make_28 rfl 2 rfl ?_
        refine x_iconst (v := (J 1)) E dX10_make_29 (by decide) ?_
        refine x_callVi (T := TX10) (N := 13) (t := 11) (As := [.int x1, .int x2, .int (J 1)]) E mlX10_236 inX10_tryRoom seX10_tryRoom rfl ⟨by decide, by decide⟩ (tX10_tryRoom h) (kX10_tryRoom l z D cA a0 x1 x2 (J 1) M _ h) rfl ⟨rfl, rfl⟩ ⟨Nat.le_of_ble_eq_true rfl, Nat.le_of_ble_eq_true rfl⟩ ⟨(Nat.le_of_ble_eq_true rfl), (Nat.le_of_ble_eq_true rfl)⟩ (Nat.le_of_ble_eq_true rfl) rfl dX10_make_30 (fun r6 M7 h => ?_)
        refine x_istore (L' := [(4, .int r6), (0, .ref a0), (1, .int x1), (2, .int x2), (3, .int x3)]) E dX10_make_33 (by decide) rfl ?_
        refine x_aload_n E dX10_make_35 rfl 1 rfl ?_
        refine x_iload_n E dX10_make_36 rfl 2 rfl ?_
        refine x_iload_n E dX10_make_37 rfl 3 rfl ?_
        refine x_iconst (v := (J (-1))) E dX10_make_38 (by decide) ?_
        refine x_callVi (T := TX10) (N := 13) (t := 11) (As := [.int x1, .int x2, .int (J (-1))]) E mlX10_236 inX10_tryRoom seX10_tryRoom rfl ⟨by decide, by decide⟩ (tX10_tryRoom h) (kX10_tryRoom l z D cA a0 x1 x2 (J (-1)) M7 _ h) rfl ⟨rfl, rfl⟩ ⟨Nat.le_of_ble_eq_true rfl, Nat.le_of_ble_eq_true rfl⟩ ⟨(Nat.le_of_ble_eq_true rfl), (Nat.le_of_ble_eq_true rfl)⟩ (Nat.le_of_ble_eq_true rfl) rfl dX10_make_39 (fun r8 M9 h => ?_)
        refine x_istore (L' := [(5, .int r8), (4, .int r6), (0, .ref a0), (1, .int x1), (2, .int x2), (3, .int x3)]) E dX10_make_42 (by decide) rfl ?_
        refine x_iload E dX10_make_44 0 rfl ?_
        refine x_sipush (v := (J (-1003))) E dX10_make_46 (by decide) ?_
        refine x_icmp_eq (tgt := 71) E dX10_make_49 (by decide) (fun c10 => ?_) (fun c10 => ?_)
        · replace h := xbr_t h c10
          clear c10
          refine x_sub (L' := [(0, .ref a0), (1, .int x1), (2, .int x2), (3, .int x3), (4, .int r6), (5, .int r8)]) [2, 3, 4, 5, 1, 0] rfl ?_
          exact hJ71 M9 a0 x1 x2 x3 r6 r8 h
        · replace h := xbr_f h c10
          clear c10
          refine x_iload E dX10_make_52 1 rfl ?_
          refine x_sipush (v := (J (-1003))) E dX10_make_54 (by decide) ?_
          refine x_icmp_eq (tgt := 67) E dX10_make_57 (by decide) (fun c20 => ?_) (fun c20 => ?_)
          · replace h := xbr_t h c20
            clear c20
            refine x_sub (L' := [(0, .ref a0), (1, .int x1), (2, .int x2), (3, .int x3), (4, .int r6), (5, .int r8)]) [2, 3, 4, 5, 1, 0] rfl ?_
            exact hJ67 M9 a0 x1 x2 x3 r6 r8 h
          · replace h := xbr_f h c20
            clear c20
            refine x_iload E dX10_make_60 0 rfl ?_
            refine x_iload E dX10_make_62 1 rfl ?_
            refine x_icmp_ge (tgt := 71) E dX10_make_64 (by decide) (fun c21 => ?_) (fun c21 => ?_)
            · replace h := xbr_t h c21
              clear c21
              refine x_sub (L' := [(0, .ref a0), (1, .int x1), (2, .int x2), (3, .int x3), (4, .int r6), (5, .int r8)]) [2, 3, 4, 5, 1, 0] rfl ?_
              exact hJ71 M9 a0 x1 x2 x3 r6 r8 h
            · replace h := xbr_f h c21
              clear c21
              refine x_sub (L' := [(0, .ref a0), (1, .int x1), (2, .int x2), (3, .int x3), (4, .int r6), (5, .int r8)]) [2, 3, 4, 5, 1, 0] rfl ?_
              exact hJ67 M9 a0 x1 x2 x3 r6 r8 h
      · replace h := xbr_f h c5
        clear c5
        refine x_sipush (v := (J (-1002))) E dX10_make_22 (by decide) ?_
        exact x_iret E hr hlk dX10_make_25 h
  · replace h := xbr_t h c3
    clear c3
    refine x_sipush (v := (J (-1001))) E dX10_make_7 (by decide) ?_
    exact x_iret E hr hlk dX10_make_10 h
theorem dX10_someBegins_0 : decode cX10_someBegins 0 = .ok (.iconst 0, 1) := by decide +kernel
theorem dX10_someBegins_1 : decode cX10_someBegins 1 = .ok (.istore 4, 2) := by decide +kernel
theorem dX10_someBegins_3 : decode cX10_someBegins 3 = .ok (.iload 4, 2) := by decide +kernel
theorem dX10_someBegins_5 : decode cX10_someBegins 5 = .ok (.iload_n 3, 1) := by decide +kernel
theorem dX10_someBegins_6 : decode cX10_someBegins 6 = .ok (.if_icmp .ge 38, 3) := by decide +kernel
theorem dX10_someBegins_9 : decode cX10_someBegins 9 = .ok (.aload_n 0, 1) := by decide +kernel
theorem dX10_someBegins_10 : decode cX10_someBegins 10 = .ok (.getfield 21, 3) := by decide +kernel
theorem dX10_someBegins_13 : decode cX10_someBegins 13 = .ok (.aload_n 0, 1) := by decide +kernel
theorem dX10_someBegins_14 : decode cX10_someBegins 14 = .ok (.getfield 35, 3) := by decide +kernel
theorem dX10_someBegins_17 : decode cX10_someBegins 17 = .ok (.iload 4, 2) := by decide +kernel
theorem dX10_someBegins_19 : decode cX10_someBegins 19 = .ok (.invokevirtual 167, 3) := by decide +kernel
theorem dX10_someBegins_22 : decode cX10_someBegins 22 = .ok (.invokevirtual 117, 3) := by decide +kernel
theorem dX10_someBegins_25 : decode cX10_someBegins 25 = .ok (.getfield 145, 3) := by decide +kernel
theorem dX10_someBegins_28 : decode cX10_someBegins 28 = .ok (.aload_n 1, 1) := by decide +kernel
theorem dX10_someBegins_29 : decode cX10_someBegins 29 = .ok (.iload_n 2, 1) := by decide +kernel
theorem dX10_someBegins_30 : decode cX10_someBegins 30 = .ok (.invokevirtual 314, 3) := by decide +kernel
theorem dX10_someBegins_33 : decode cX10_someBegins 33 = .ok (.ifCond .eq 5, 3) := by decide +kernel
theorem dX10_someBegins_36 : decode cX10_someBegins 36 = .ok (.iconst 1, 1) := by decide +kernel
theorem dX10_someBegins_37 : decode cX10_someBegins 37 = .ok (.ireturn, 1) := by decide +kernel
theorem dX10_someBegins_38 : decode cX10_someBegins 38 = .ok (.iinc 4 1, 3) := by decide +kernel
theorem dX10_someBegins_41 : decode cX10_someBegins 41 = .ok (.goto (-38), 3) := by decide +kernel
theorem dX10_someBegins_44 : decode cX10_someBegins 44 = .ok (.iconst 0, 1) := by decide +kernel
theorem dX10_someBegins_45 : decode cX10_someBegins 45 = .ok (.ireturn, 1) := by decide +kernel
set_option maxHeartbeats 4000000 in
set_option maxRecDepth 100000 in
theorem kX10_someBegins (l : Launch) (z : Nat) (D : va_G) (cA : Nat → ClassId) (a0 : Nat) (a1 : Nat) (x2 : Int32) (x3 : Int32) (M : Mem) (K : Int32 → Prop) (h : PX10_someBegins a0 a1 x2 x3 M K) : Met l yX10_someBegins (.code yX10_someBegins cX10_someBegins 5 (some .boolean) :: gtbl) ({ frames := 2, cells := 0, slots := 0, locals := 44 } : Room) (va_Pc [.ref a0, .ref a1, .int x2, .int x3] (xB z D cA M)) (va_Qi (fun r M1 => M1 = M ∧ K r) (xWd z D cA) (xA z)) 0 0 (xA z) := by
  refine x_met (by decide +kernel) (Nat.le_of_ble_eq_true rfl) (L0 := [(0, .ref a0), (1, .ref a1), (2, .int x2), (3, .int x3)]) rfl ?_
  intro p e s m args below meth c E hr hlk hnm
  have E : xE RX10 cX10_someBegins 5 D cA p s m args c := E
  replace h := h.2
  refine x_iconst (v := (J 0)) E dX10_someBegins_0 (by decide) ?_
  refine x_istore (L' := [(4, .int (J 0)), (0, .ref a0), (1, .ref a1), (2, .int x2), (3, .int x3)]) E dX10_someBegins_1 (by decide) rfl ?_
  refine x_sub (L' := [(0, .ref a0), (1, .ref a1), (2, .int x2), (3, .int x3), (4, .int (J 0))]) [1, 2, 3, 4, 0] rfl ?_
  refine lp_sound (T := fun sv => xG p l e ({ frames := 2, cells := 0, slots := 0, locals := 44 } : Room) s m args below meth c (MQ below (va_Qi (fun r M1 => M1 = M ∧ K r) (xWd z D cA) (xA z)) args s 0 0 (xA z)) 5 z D cA M (0) (0) 3 [(0, .ref a0), (1, .ref a1), (2, .int x2), (3, .int x3), (4, .int sv)] []) ?_ (J 0) h
  clear h
  intro kc3 hk3 sv h
  obtain ⟨x4, esv⟩ : ∃ y, y = sv := ⟨_, rfl⟩
  subst esv
  replace h : CX10_someBegins_3 K M a0 a1 x2 x3 kc3 x4 := h
  try dsimp only
  refine x_iload E dX10_someBegins_3 4 rfl ?_
  refine x_iload_n E dX10_someBegins_5 rfl 3 rfl ?_
  refine x_icmp_ge (tgt := 44) E dX10_someBegins_6 (by decide) (fun c1 => ?_) (fun c1 => ?_)
  · replace h := xbr_t h c1
    clear c1
    refine x_iconst (v := (J 0)) E dX10_someBegins_44 (by decide) ?_
    exact x_zret E hr hlk dX10_someBegins_45 h.1 ⟨rfl, h.2⟩
  · replace h := xbr_f h c1
    clear c1
    refine x_aload_n E dX10_someBegins_9 rfl 0 rfl ?_
    obtain ⟨hT, q2, hv, h⟩ := h
    refine x_get E flX10_21 dX10_someBegins_10 hT hv ?_
    clear hT hv
    refine x_aload_n E dX10_someBegins_13 rfl 0 rfl ?_
    obtain ⟨hT, q3, hv, h⟩ := h
    refine x_get E flX10_35 dX10_someBegins_14 hT hv ?_
    clear hT hv
    refine x_iload E dX10_someBegins_17 4 rfl ?_
    refine x_callVi (T := TX6) (N := 3) (t := 7) (As := [.int x4]) E mlX10_167 inX6_bookAt seX6_bookAt rfl ⟨by decide, by decide⟩ (tX6_bookAt h) (kX6_bookAt l z D cA q3 x4 M _ h) rfl ⟨rfl, rfl⟩ ⟨Nat.le_of_ble_eq_true rfl, Nat.le_of_ble_eq_true rfl⟩ ⟨(Nat.le_of_ble_eq_true rfl), (Nat.le_of_ble_eq_true rfl)⟩ (Nat.le_of_ble_eq_true rfl) rfl dX10_someBegins_19 (x_pure (fun r4 h => ?_))
    refine x_callVr (T := TX2) (N := 4) (t := 3) (As := [.int r4]) E mlX10_117 inX2_of seX2_of rfl ⟨by decide, by decide⟩ (tX2_of h) (kX2_of l z D cA q2 r4 M _ h) rfl ⟨rfl, rfl⟩ ⟨Nat.le_of_ble_eq_true rfl, Nat.le_of_ble_eq_true rfl⟩ ⟨(Nat.le_of_ble_eq_true rfl), (Nat.le_of_ble_eq_true rfl)⟩ (Nat.le_of_ble_eq_true rfl) rfl dX10_someBegins_22 (fun q6 h => ?_)
    obtain ⟨hT, q8, hv, h⟩ := h
    refine x_get E flX10_145 dX10_someBegins_25 hT hv ?_
    clear hT hv
    refine x_aload_n E dX10_someBegins_28 rfl 1 rfl ?_
    refine x_iload_n E dX10_someBegins_29 rfl 2 rfl ?_
    refine x_callVi (T := TX1) (N := 2) (t := 2) (As := [.ref a1, .int x2]) E mlX10_314 inX1_beginsWith seX1_beginsWith rfl ⟨by decide, by decide⟩ (tX1_beginsWith h) (kX1_beginsWith l z D cA q8 a1 x2 M _ h) rfl ⟨rfl, rfl⟩ ⟨Nat.le_of_ble_eq_true rfl, Nat.le_of_ble_eq_true rfl⟩ ⟨(Nat.le_of_ble_eq_true rfl), (Nat.le_of_ble_eq_true rfl)⟩ (Nat.le_of_ble_eq_true rfl) rfl dX10_someBegins_30 (x_pure (fun r9 h => ?_))
    refine x_if_eq (tgt := 38) E dX10_someBegins_33 (by decide) (fun c11 => ?_) (fun c11 => ?_)
    · replace h := xbr_t h c11
      clear c11
      refine x_iinc (v := (x4 + (J 1))) (L' := [(4, .int (x4 + (J 1))), (0, .ref a0), (1, .ref a1), (2, .int x2), (3, .int x3)]) E dX10_someBegins_38 4 rfl rfl (by decide) rfl ?_
      refine x_goto (tgt := 3) E dX10_someBegins_41 (by decide) ?_
      refine x_sub (L' := [(0, .ref a0), (1, .ref a1), (2, .int x2), (3, .int x3), (4, .int (x4 + (J 1)))]) [1, 2, 3, 4, 0] rfl ?_
      exact hk3 (x4 + (J 1)) h
    · replace h := xbr_f h c11
      clear c11
      refine x_iconst (v := (J 1)) E dX10_someBegins_36 (by decide) ?_
      exact x_zret E hr hlk dX10_someBegins_37 h.1 ⟨rfl, h.2⟩
theorem dX10_guideLength_0 : decode cX10_guideLength 0 = .ok (.aload_n 0, 1) := by decide +kernel
theorem dX10_guideLength_1 : decode cX10_guideLength 1 = .ok (.getfield 21, 3) := by decide +kernel
theorem dX10_guideLength_4 : decode cX10_guideLength 4 = .ok (.iload_n 1, 1) := by decide +kernel
theorem dX10_guideLength_5 : decode cX10_guideLength 5 = .ok (.invokevirtual 117, 3) := by decide +kernel
theorem dX10_guideLength_8 : decode cX10_guideLength 8 = .ok (.getfield 145, 3) := by decide +kernel
theorem dX10_guideLength_11 : decode cX10_guideLength 11 = .ok (.astore_n 3, 1) := by decide +kernel
theorem dX10_guideLength_12 : decode cX10_guideLength 12 = .ok (.aload_n 0, 1) := by decide +kernel
theorem dX10_guideLength_13 : decode cX10_guideLength 13 = .ok (.getfield 35, 3) := by decide +kernel
theorem dX10_guideLength_16 : decode cX10_guideLength 16 = .ok (.iload_n 2, 1) := by decide +kernel
theorem dX10_guideLength_17 : decode cX10_guideLength 17 = .ok (.invokevirtual 142, 3) := by decide +kernel
theorem dX10_guideLength_20 : decode cX10_guideLength 20 = .ok (.istore 4, 2) := by decide +kernel
theorem dX10_guideLength_22 : decode cX10_guideLength 22 = .ok (.iconst 1, 1) := by decide +kernel
theorem dX10_guideLength_23 : decode cX10_guideLength 23 = .ok (.istore 5, 2) := by decide +kernel
theorem dX10_guideLength_25 : decode cX10_guideLength 25 = .ok (.iload 5, 2) := by decide +kernel
theorem dX10_guideLength_27 : decode cX10_guideLength 27 = .ok (.aload_n 3, 1) := by decide +kernel
theorem dX10_guideLength_28 : decode cX10_guideLength 28 = .ok (.invokevirtual 83, 3) := by decide +kernel
theorem dX10_guideLength_31 : decode cX10_guideLength 31 = .ok (.if_icmp .ge 24, 3) := by decide +kernel
theorem dX10_guideLength_34 : decode cX10_guideLength 34 = .ok (.aload_n 0, 1) := by decide +kernel
theorem dX10_guideLength_35 : decode cX10_guideLength 35 = .ok (.aload_n 3, 1) := by decide +kernel
theorem dX10_guideLength_36 : decode cX10_guideLength 36 = .ok (.iload 5, 2) := by decide +kernel
theorem dX10_guideLength_38 : decode cX10_guideLength 38 = .ok (.iload 4, 2) := by decide +kernel
theorem dX10_guideLength_40 : decode cX10_guideLength 40 = .ok (.invokevirtual 310, 3) := by decide +kernel
theorem dX10_guideLength_43 : decode cX10_guideLength 43 = .ok (.ifCond .ne 6, 3) := by decide +kernel
theorem dX10_guideLength_46 : decode cX10_guideLength 46 = .ok (.iload 5, 2) := by decide +kernel
theorem dX10_guideLength_48 : decode cX10_guideLength 48 = .ok (.ireturn, 1) := by decide +kernel
theorem dX10_guideLength_49 : decode cX10_guideLength 49 = .ok (.iinc 5 1, 3) := by decide +kernel
theorem dX10_guideLength_52 : decode cX10_guideLength 52 = .ok (.goto (-27), 3) := by decide +kernel
theorem dX10_guideLength_55 : decode cX10_guideLength 55 = .ok (.aload_n 3, 1) := by decide +kernel
theorem dX10_guideLength_56 : decode cX10_guideLength 56 = .ok (.invokevirtual 83, 3) := by decide +kernel
theorem dX10_guideLength_59 : decode cX10_guideLength 59 = .ok (.ireturn, 1) := by decide +kernel
set_option maxHeartbeats 4000000 in
set_option maxRecDepth 100000 in
theorem kX10_guideLength (l : Launch) (z : Nat) (D : va_G) (cA : Nat → ClassId) (a0 : Nat) (x1 : Int32) (x2 : Int32) (M : Mem) (K : Int32 → Prop) (h : PX10_guideLength a0 x1 x2 M K) : Met l yX10_guideLength (.code yX10_guideLength cX10_guideLength 6 (some .int) :: gtbl) ({ frames := 3, cells := 0, slots := 0, locals := 68 } : Room) (va_Pc [.ref a0, .int x1, .int x2] (xB z D cA M)) (va_Qi (fun r M1 => M1 = M ∧ K r) (xWd z D cA) (xA z)) 0 0 (xA z) := by
  refine x_met (by decide +kernel) (Nat.le_of_ble_eq_true rfl) (L0 := [(0, .ref a0), (1, .int x1), (2, .int x2)]) rfl ?_
  intro p e s m args below meth c E hr hlk hnm
  have E : xE RX10 cX10_guideLength 6 D cA p s m args c := E
  replace h := h.2
  refine x_aload_n E dX10_guideLength_0 rfl 0 rfl ?_
  obtain ⟨hT, q1, hv, h⟩ := h
  refine x_get E flX10_21 dX10_guideLength_1 hT hv ?_
  clear hT hv
  refine x_iload_n E dX10_guideLength_4 rfl 1 rfl ?_
  refine x_callVr (T := TX2) (N := 4) (t := 3) (As := [.int x1]) E mlX10_117 inX2_of seX2_of rfl ⟨by decide, by decide⟩ (tX2_of h) (kX2_of l z D cA q1 x1 M _ h) rfl ⟨rfl, rfl⟩ ⟨Nat.le_of_ble_eq_true rfl, Nat.le_of_ble_eq_true rfl⟩ ⟨(Nat.le_of_ble_eq_true rfl), (Nat.le_of_ble_eq_true rfl)⟩ (Nat.le_of_ble_eq_true rfl) rfl dX10_guideLength_5 (fun q2 h => ?_)
  obtain ⟨hT, q4, hv, h⟩ := h
  refine x_get E flX10_145 dX10_guideLength_8 hT hv ?_
  clear hT hv
  refine x_astore_n (L' := [(3, .ref q4), (0, .ref a0), (1, .int x1), (2, .int x2)]) E dX10_guideLength_11 rfl (by decide) rfl ?_
  refine x_aload_n E dX10_guideLength_12 rfl 1 rfl ?_
  obtain ⟨hT, q5, hv, h⟩ := h
  refine x_get E flX10_35 dX10_guideLength_13 hT hv ?_
  clear hT hv
  refine x_iload_n E dX10_guideLength_16 rfl 3 rfl ?_
  refine x_callVi (T := TX6) (N := 3) (t := 7) (As := [.int x2]) E mlX10_142 inX6_start seX6_start rfl ⟨by decide, by decide⟩ (tX6_start h) (kX6_start l z D cA q5 x2 M _ h) rfl ⟨rfl, rfl⟩ ⟨Nat.le_of_ble_eq_true rfl, Nat.le_of_ble_eq_true rfl⟩ ⟨(Nat.le_of_ble_eq_true rfl), (Nat.le_of_ble_eq_true rfl)⟩ (Nat.le_of_ble_eq_true rfl) rfl dX10_guideLength_17 (x_pure (fun r6 h => ?_))
  refine x_istore (L' := [(4, .int r6), (3, .ref q4), (0, .ref a0), (1, .int x1), (2, .int x2)]) E dX10_guideLength_20 (by decide) rfl ?_
  refine x_iconst (v := (J 1)) E dX10_guideLength_22 (by decide) ?_
  refine x_istore (L' := [(5, .int (J 1)), (4, .int r6), (3, .ref q4), (0, .ref a0), (1, .int x1), (2, .int x2)]) E dX10_guideLength_23 (by decide) rfl ?_
  refine x_sub (L' := [(0, .ref a0), (3, .ref q4), (4, .int r6), (5, .int (J 1))]) [3, 2, 1, 0] rfl ?_
  refine lp_sound (T := fun sv => xG p l e ({ frames := 3, cells := 0, slots := 0, locals := 68 } : Room) s m args below meth c (MQ below (va_Qi (fun r M1 => M1 = M ∧ K r) (xWd z D cA) (xA z)) args s 0 0 (xA z)) 6 z D cA M (0) (0) 25 [(0, .ref a0), (3, .ref q4), (4, .int r6), (5, .int sv)] []) ?_ (J 1) h
  clear h
  intro kc25 hk25 sv h
  obtain ⟨x5, esv⟩ : ∃ y, y = sv := ⟨_, rfl⟩
  subst esv
  replace h : CX10_guideLength_25 K M a0 q4 r6 kc25 x5 := h
  try dsimp only
  refine x_iload E dX10_guideLength_25 3 rfl ?_
  refine x_aload_n E dX10_guideLength_27 rfl 1 rfl ?_
  refine x_callVi (T := TX1) (N := 2) (t := 2) (As := []) E mlX10_83 inX1_size seX1_size rfl ⟨by decide, by decide⟩ (tX1_size h) (kX1_size l z D cA q4 M _ h) rfl ⟨rfl, rfl⟩ ⟨Nat.le_of_ble_eq_true rfl, Nat.le_of_ble_eq_true rfl⟩ ⟨(Nat.le_of_ble_eq_true rfl), (Nat.le_of_ble_eq_true rfl)⟩ (Nat.le_of_ble_eq_true rfl) rfl dX10_guideLength_28 (x_pure (fun r8 h => ?_))
  refine x_icmp_ge (tgt := 55) E dX10_guideLength_31 (by decide) (fun c10 => ?_) (fun c10 => ?_)
  · replace h := xbr_t h c10
    clear c10
    refine x_aload_n E dX10_guideLength_55 rfl 1 rfl ?_
    refine x_callVi (T := TX1) (N := 2) (t := 2) (As := []) E mlX10_83 inX1_size seX1_size rfl ⟨by decide, by decide⟩ (tX1_size h) (kX1_size l z D cA q4 M _ h) rfl ⟨rfl, rfl⟩ ⟨Nat.le_of_ble_eq_true rfl, Nat.le_of_ble_eq_true rfl⟩ ⟨(Nat.le_of_ble_eq_true rfl), (Nat.le_of_ble_eq_true rfl)⟩ (Nat.le_of_ble_eq_true rfl) rfl dX10_guideLength_56 (x_pure (fun r11 h => ?_))
    exact x_iret E hr hlk dX10_guideLength_59 ⟨rfl, h⟩
  · replace h := xbr_f h c10
    clear c10
    refine x_aload_n E dX10_guideLength_34 rfl 0 rfl ?_
    refine x_aload_n E dX10_guideLength_35 rfl 1 rfl ?_
    refine x_iload E dX10_guideLength_36 3 rfl ?_
    refine x_iload E dX10_guideLength_38 2 rfl ?_
    refine x_callVi (T := TX10) (N := 13) (t := 11) (As := [.ref q4, .int x5, .int r6]) E mlX10_310 inX10_someBegins seX10_someBegins rfl ⟨by decide, by decide⟩ (tX10_someBegins h) (kX10_someBegins l z D cA a0 q4 x5 r6 M _ h) rfl ⟨rfl, rfl⟩ ⟨Nat.le_of_ble_eq_true rfl, Nat.le_of_ble_eq_true rfl⟩ ⟨(Nat.le_of_ble_eq_true rfl), (Nat.le_of_ble_eq_true rfl)⟩ (Nat.le_of_ble_eq_true rfl) rfl dX10_guideLength_40 (x_pure (fun r13 h => ?_))
    refine x_if_ne (tgt := 49) E dX10_guideLength_43 (by decide) (fun c15 => ?_) (fun c15 => ?_)
    · replace h := xbr_f h c15
      clear c15
      refine x_iinc (v := (x5 + (J 1))) (L' := [(5, .int (x5 + (J 1))), (0, .ref a0), (3, .ref q4), (4, .int r6)]) E dX10_guideLength_49 3 rfl rfl (by decide) rfl ?_
      refine x_goto (tgt := 25) E dX10_guideLength_52 (by decide) ?_
      refine x_sub (L' := [(0, .ref a0), (3, .ref q4), (4, .int r6), (5, .int (x5 + (J 1)))]) [1, 2, 3, 0] rfl ?_
      exact hk25 (x5 + (J 1)) h
    · replace h := xbr_t h c15
      clear c15
      refine x_iload E dX10_guideLength_46 3 rfl ?_
      exact x_iret E hr hlk dX10_guideLength_48 ⟨rfl, h⟩
theorem dX10_guide_0 : decode cX10_guide 0 = .ok (.iload_n 1, 1) := by decide +kernel
theorem dX10_guide_1 : decode cX10_guide 1 = .ok (.invokestatic 176, 3) := by decide +kernel
theorem dX10_guide_4 : decode cX10_guide 4 = .ok (.ifCond .ne 7, 3) := by decide +kernel
theorem dX10_guide_7 : decode cX10_guide 7 = .ok (.sipush (-1001), 3) := by decide +kernel
theorem dX10_guide_10 : decode cX10_guide 10 = .ok (.ireturn, 1) := by decide +kernel
theorem dX10_guide_11 : decode cX10_guide 11 = .ok (.aload_n 0, 1) := by decide +kernel
theorem dX10_guide_12 : decode cX10_guide 12 = .ok (.getfield 35, 3) := by decide +kernel
theorem dX10_guide_15 : decode cX10_guide 15 = .ok (.iload_n 1, 1) := by decide +kernel
theorem dX10_guide_16 : decode cX10_guide 16 = .ok (.iconst 0, 1) := by decide +kernel
theorem dX10_guide_17 : decode cX10_guide 17 = .ok (.invokevirtual 193, 3) := by decide +kernel
theorem dX10_guide_20 : decode cX10_guide 20 = .ok (.istore_n 3, 1) := by decide +kernel
theorem dX10_guide_21 : decode cX10_guide 21 = .ok (.iload_n 3, 1) := by decide +kernel
theorem dX10_guide_22 : decode cX10_guide 22 = .ok (.iconst (-1), 1) := by decide +kernel
theorem dX10_guide_23 : decode cX10_guide 23 = .ok (.if_icmp .ne 7, 3) := by decide +kernel
theorem dX10_guide_26 : decode cX10_guide 26 = .ok (.iconst 0, 1) := by decide +kernel
theorem dX10_guide_27 : decode cX10_guide 27 = .ok (.goto 9, 3) := by decide +kernel
theorem dX10_guide_30 : decode cX10_guide 30 = .ok (.aload_n 0, 1) := by decide +kernel
theorem dX10_guide_31 : decode cX10_guide 31 = .ok (.iload_n 3, 1) := by decide +kernel
theorem dX10_guide_32 : decode cX10_guide 32 = .ok (.iload_n 1, 1) := by decide +kernel
theorem dX10_guide_33 : decode cX10_guide 33 = .ok (.invokevirtual 244, 3) := by decide +kernel
theorem dX10_guide_36 : decode cX10_guide 36 = .ok (.istore 4, 2) := by decide +kernel
theorem dX10_guide_38 : decode cX10_guide 38 = .ok (.iload_n 2, 1) := by decide +kernel
theorem dX10_guide_39 : decode cX10_guide 39 = .ok (.iconst (-1), 1) := by decide +kernel
theorem dX10_guide_40 : decode cX10_guide 40 = .ok (.if_icmp .ne 6, 3) := by decide +kernel
theorem dX10_guide_43 : decode cX10_guide 43 = .ok (.iload 4, 2) := by decide +kernel
theorem dX10_guide_45 : decode cX10_guide 45 = .ok (.ireturn, 1) := by decide +kernel
theorem dX10_guide_46 : decode cX10_guide 46 = .ok (.iload_n 2, 1) := by decide +kernel
theorem dX10_guide_47 : decode cX10_guide 47 = .ok (.ifCond .lt 27, 3) := by decide +kernel
theorem dX10_guide_50 : decode cX10_guide 50 = .ok (.iload_n 2, 1) := by decide +kernel
theorem dX10_guide_51 : decode cX10_guide 51 = .ok (.iload 4, 2) := by decide +kernel
theorem dX10_guide_53 : decode cX10_guide 53 = .ok (.if_icmp .ge 21, 3) := by decide +kernel
theorem dX10_guide_56 : decode cX10_guide 56 = .ok (.aload_n 0, 1) := by decide +kernel
theorem dX10_guide_57 : decode cX10_guide 57 = .ok (.getfield 21, 3) := by decide +kernel
theorem dX10_guide_60 : decode cX10_guide 60 = .ok (.iload_n 3, 1) := by decide +kernel
theorem dX10_guide_61 : decode cX10_guide 61 = .ok (.invokevirtual 117, 3) := by decide +kernel
theorem dX10_guide_64 : decode cX10_guide 64 = .ok (.getfield 145, 3) := by decide +kernel
theorem dX10_guide_67 : decode cX10_guide 67 = .ok (.iload_n 2, 1) := by decide +kernel
theorem dX10_guide_68 : decode cX10_guide 68 = .ok (.invokevirtual 148, 3) := by decide +kernel
theorem dX10_guide_71 : decode cX10_guide 71 = .ok (.goto 4, 3) := by decide +kernel
theorem dX10_guide_74 : decode cX10_guide 74 = .ok (.iconst (-1), 1) := by decide +kernel
theorem dX10_guide_75 : decode cX10_guide 75 = .ok (.ireturn, 1) := by decide +kernel
set_option maxHeartbeats 4000000 in
set_option maxRecDepth 100000 in
theorem kX10_guide (l : Launch) (z : Nat) (D : va_G) (cA : Nat → ClassId) (a0 : Nat) (x1 : Int32) (x2 : Int32) (M : Mem) (K : Int32 → Prop) (h : PX10_guide a0 x1 x2 M K) : Met l yX10_guide (.code yX10_guide cX10_guide 5 (some .int) :: gtbl) ({ frames := 4, cells := 0, slots := 0, locals := 93 } : Room) (va_Pc [.ref a0, .int x1, .int x2] (xB z D cA M)) (va_Qi (fun r M1 => M1 = M ∧ K r) (xWd z D cA) (xA z)) 0 0 (xA z) := by
  refine x_met (by decide +kernel) (Nat.le_of_ble_eq_true rfl) (L0 := [(0, .ref a0), (1, .int x1), (2, .int x2)]) rfl ?_
  intro p e s m args below meth c E hr hlk hnm
  have E : xE RX10 cX10_guide 5 D cA p s m args c := E
  have hJ36 : ∀ (j0 : Nat) (j2 : Int32) (j3 : Int32) (s0 : Int32), JX10_guide_36 K M j0 j2 j3 s0 → xG p l e ({ frames := 4, cells := 0, slots := 0, locals := 93 } : Room) s m args below meth c (MQ below (va_Qi (fun r M1 => M1 = M ∧ K r) (xWd z D cA) (xA z)) args s 0 0 (xA z)) 5 z D cA M (0) (0) 36 [(0, .ref j0), (2, .int j2), (3, .int j3)] [.int s0] := by
    intro j0 j2 j3 s0 h
    refine x_istore (L' := [(4, .int s0), (0, .ref j0), (2, .int j2), (3, .int j3)]) E dX10_guide_36 (by decide) rfl ?_
    refine x_iload_n E dX10_guide_38 rfl 2 rfl ?_
    refine x_iconst (v := (J (-1))) E dX10_guide_39 (by decide) ?_
    refine x_icmp_ne (tgt := 46) E dX10_guide_40 (by decide) (fun c10 => ?_) (fun c10 => ?_)
    · replace h := xbr_f h c10
      clear c10
      refine x_iload_n E dX10_guide_46 rfl 2 rfl ?_
      refine x_if_lt (tgt := 74) E dX10_guide_47 (by decide) (fun c11 => ?_) (fun c11 => ?_)
      · replace h := xbr_t h c11
        clear c11
        refine x_iconst (v := (J (-1))) E dX10_guide_74 (by decide) ?_
        exact x_iret E hr hlk dX10_guide_75 ⟨rfl, h⟩
      · replace h := xbr_f h c11
        clear c11
        refine x_iload_n E dX10_guide_50 rfl 2 rfl ?_
        refine x_iload E dX10_guide_51 0 rfl ?_
        refine x_icmp_ge (tgt := 74) E dX10_guide_53 (by decide) (fun c12 => ?_) (fun c12 => ?_)
        · replace h := xbr_t h c12
          clear c12
          refine x_iconst (v := (J (-1))) E dX10_guide_74 (by decide) ?_
          exact x_iret E hr hlk dX10_guide_75 ⟨rfl, h⟩
        · replace h := xbr_f h c12
          clear c12
          refine x_aload_n E dX10_guide_56 rfl 1 rfl ?_
          obtain ⟨hT, q13, hv, h⟩ := h
          refine x_get E flX10_21 dX10_guide_57 hT hv ?_
          clear hT hv
          refine x_iload_n E dX10_guide_60 rfl 3 rfl ?_
          refine x_callVr (T := TX2) (N := 4) (t := 3) (As := [.int j3]) E mlX10_117 inX2_of seX2_of rfl ⟨by decide, by decide⟩ (tX2_of h) (kX2_of l z D cA q13 j3 M _ h) rfl ⟨rfl, rfl⟩ ⟨Nat.le_of_ble_eq_true rfl, Nat.le_of_ble_eq_true rfl⟩ ⟨(Nat.le_of_ble_eq_true rfl), (Nat.le_of_ble_eq_true rfl)⟩ (Nat.le_of_ble_eq_true rfl) rfl dX10_guide_61 (fun q14 h => ?_)
          obtain ⟨hT, q16, hv, h⟩ := h
          refine x_get E flX10_145 dX10_guide_64 hT hv ?_
          clear hT hv
          refine x_iload_n E dX10_guide_67 rfl 2 rfl ?_
          refine x_callVi (T := TX1) (N := 2) (t := 2) (As := [.int j2]) E mlX10_148 inX1_get seX1_get rfl ⟨by decide, by decide⟩ (tX1_get h) (kX1_get l z D cA q16 j2 M _ h) rfl ⟨rfl, rfl⟩ ⟨Nat.le_of_ble_eq_true rfl, Nat.le_of_ble_eq_true rfl⟩ ⟨(Nat.le_of_ble_eq_true rfl), (Nat.le_of_ble_eq_true rfl)⟩ (Nat.le_of_ble_eq_true rfl) rfl dX10_guide_68 (x_pure (fun r17 h => ?_))
          refine x_goto (tgt := 75) E dX10_guide_71 (by decide) ?_
          exact x_iret E hr hlk dX10_guide_75 ⟨rfl, h⟩
    · replace h := xbr_t h c10
      clear c10
      refine x_iload E dX10_guide_43 0 rfl ?_
      exact x_iret E hr hlk dX10_guide_45 ⟨rfl, h⟩
  replace h := h.2
  refine x_iload_n E dX10_guide_0 rfl 1 rfl ?_
  refine x_callSi (As := [.int x1]) E mlX10_176 rfl stX10_isShelf (kX10_isShelf l z D cA x1 M _ h) rfl ⟨rfl, rfl⟩ ⟨Nat.le_of_ble_eq_true rfl, Nat.le_of_ble_eq_true rfl⟩ ⟨(Nat.le_of_ble_eq_true rfl), (Nat.le_of_ble_eq_true rfl)⟩ (Nat.le_of_ble_eq_true rfl) rfl dX10_guide_1 (x_pure (fun r1 h => ?_))
  refine x_if_ne (tgt := 11) E dX10_guide_4 (by decide) (fun c3 => ?_) (fun c3 => ?_)
  · replace h := xbr_f h c3
    clear c3
    refine x_aload_n E dX10_guide_11 rfl 0 rfl ?_
    obtain ⟨hT, q4, hv, h⟩ := h
    refine x_get E flX10_35 dX10_guide_12 hT hv ?_
    clear hT hv
    refine x_iload_n E dX10_guide_15 rfl 1 rfl ?_
    refine x_iconst (v := (J 0)) E dX10_guide_16 (by decide) ?_
    refine x_callVi (T := TX6) (N := 3) (t := 7) (As := [.int x1, .int (J 0)]) E mlX10_193 inX6_onShelf seX6_onShelf rfl ⟨by decide, by decide⟩ (tX6_onShelf h) (kX6_onShelf l z D cA q4 x1 (J 0) M _ h) rfl ⟨rfl, rfl⟩ ⟨Nat.le_of_ble_eq_true rfl, Nat.le_of_ble_eq_true rfl⟩ ⟨(Nat.le_of_ble_eq_true rfl), (Nat.le_of_ble_eq_true rfl)⟩ (Nat.le_of_ble_eq_true rfl) rfl dX10_guide_17 (x_pure (fun r5 h => ?_))
    refine x_istore_n (L' := [(3, .int r5), (0, .ref a0), (1, .int x1), (2, .int x2)]) E dX10_guide_20 rfl (by decide) rfl ?_
    refine x_iload_n E dX10_guide_21 rfl 0 rfl ?_
    refine x_iconst (v := (J (-1))) E dX10_guide_22 (by decide) ?_
    refine x_icmp_ne (tgt := 30) E dX10_guide_23 (by decide) (fun c7 => ?_) (fun c7 => ?_)
    · replace h := xbr_f h c7
      clear c7
      refine x_aload_n E dX10_guide_30 rfl 1 rfl ?_
      refine x_iload_n E dX10_guide_31 rfl 0 rfl ?_
      refine x_iload_n E dX10_guide_32 rfl 2 rfl ?_
      refine x_callVi (T := TX10) (N := 13) (t := 11) (As := [.int r5, .int x1]) E mlX10_244 inX10_guideLength seX10_guideLength rfl ⟨by decide, by decide⟩ (tX10_guideLength h) (kX10_guideLength l z D cA a0 r5 x1 M _ h) rfl ⟨rfl, rfl⟩ ⟨Nat.le_of_ble_eq_true rfl, Nat.le_of_ble_eq_true rfl⟩ ⟨(Nat.le_of_ble_eq_true rfl), (Nat.le_of_ble_eq_true rfl)⟩ (Nat.le_of_ble_eq_true rfl) rfl dX10_guide_33 (x_pure (fun r8 h => ?_))
      refine x_sub (L' := [(0, .ref a0), (2, .int x2), (3, .int r5)]) [1, 3, 0] rfl ?_
      exact hJ36 a0 x2 r5 r8 h
    · replace h := xbr_t h c7
      clear c7
      refine x_iconst (v := (J 0)) E dX10_guide_26 (by decide) ?_
      refine x_goto (tgt := 36) E dX10_guide_27 (by decide) ?_
      refine x_sub (L' := [(0, .ref a0), (2, .int x2), (3, .int r5)]) [1, 3, 0] rfl ?_
      exact hJ36 a0 x2 r5 (J 0) h
  · replace h := xbr_t h c3
    clear c3
    refine x_sipush (v := (J (-1001))) E dX10_guide_7 (by decide) ?_
    exact x_iret E hr hlk dX10_guide_10 ⟨rfl, h⟩
theorem dX10_isSetOfBooks_0 : decode cX10_isSetOfBooks 0 = .ok (.iload_n 1, 1) := by decide +kernel
theorem dX10_isSetOfBooks_1 : decode cX10_isSetOfBooks 1 = .ok (.ifCond .lt 20, 3) := by decide +kernel
theorem dX10_isSetOfBooks_4 : decode cX10_isSetOfBooks 4 = .ok (.iload_n 1, 1) := by decide +kernel
theorem dX10_isSetOfBooks_5 : decode cX10_isSetOfBooks 5 = .ok (.iconst 1, 1) := by decide +kernel
theorem dX10_isSetOfBooks_6 : decode cX10_isSetOfBooks 6 = .ok (.aload_n 0, 1) := by decide +kernel
theorem dX10_isSetOfBooks_7 : decode cX10_isSetOfBooks 7 = .ok (.getfield 21, 3) := by decide +kernel
theorem dX10_isSetOfBooks_10 : decode cX10_isSetOfBooks 10 = .ok (.invokevirtual 112, 3) := by decide +kernel
theorem dX10_isSetOfBooks_13 : decode cX10_isSetOfBooks 13 = .ok (.ishl, 1) := by decide +kernel
theorem dX10_isSetOfBooks_14 : decode cX10_isSetOfBooks 14 = .ok (.if_icmp .ge 7, 3) := by decide +kernel
theorem dX10_isSetOfBooks_17 : decode cX10_isSetOfBooks 17 = .ok (.iconst 1, 1) := by decide +kernel
theorem dX10_isSetOfBooks_18 : decode cX10_isSetOfBooks 18 = .ok (.goto 4, 3) := by decide +kernel
theorem dX10_isSetOfBooks_21 : decode cX10_isSetOfBooks 21 = .ok (.iconst 0, 1) := by decide +kernel
theorem dX10_isSetOfBooks_22 : decode cX10_isSetOfBooks 22 = .ok (.ireturn, 1) := by decide +kernel
set_option maxHeartbeats 4000000 in
set_option maxRecDepth 100000 in
theorem kX10_isSetOfBooks (l : Launch) (z : Nat) (D : va_G) (cA : Nat → ClassId) (a0 : Nat) (x1 : Int32) (M : Mem) (K : Int32 → Prop) (h : PX10_isSetOfBooks a0 x1 M K) : Met l yX10_isSetOfBooks (.code yX10_isSetOfBooks cX10_isSetOfBooks 2 (some .boolean) :: gtbl) ({ frames := 1, cells := 0, slots := 0, locals := 20 } : Room) (va_Pc [.ref a0, .int x1] (xB z D cA M)) (va_Qi (fun r M1 => M1 = M ∧ K r) (xWd z D cA) (xA z)) 0 0 (xA z) := by
  refine x_met (by decide +kernel) (Nat.le_of_ble_eq_true rfl) (L0 := [(0, .ref a0), (1, .int x1)]) rfl ?_
  intro p e s m args below meth c E hr hlk hnm
  have E : xE RX10 cX10_isSetOfBooks 2 D cA p s m args c := E
  replace h := h.2
  refine x_iload_n E dX10_isSetOfBooks_0 rfl 1 rfl ?_
  refine x_if_lt (tgt := 21) E dX10_isSetOfBooks_1 (by decide) (fun c1 => ?_) (fun c1 => ?_)
  · replace h := xbr_t h c1
    clear c1
    refine x_iconst (v := (J 0)) E dX10_isSetOfBooks_21 (by decide) ?_
    exact x_zret E hr hlk dX10_isSetOfBooks_22 h.1 ⟨rfl, h.2⟩
  · replace h := xbr_f h c1
    clear c1
    refine x_iload_n E dX10_isSetOfBooks_4 rfl 1 rfl ?_
    refine x_iconst (v := (J 1)) E dX10_isSetOfBooks_5 (by decide) ?_
    refine x_aload_n E dX10_isSetOfBooks_6 rfl 0 rfl ?_
    obtain ⟨hT, q2, hv, h⟩ := h
    refine x_get E flX10_21 dX10_isSetOfBooks_7 hT hv ?_
    clear hT hv
    refine x_callVi (T := TX2) (N := 4) (t := 3) (As := []) E mlX10_112 inX2_size seX2_size rfl ⟨by decide, by decide⟩ (tX2_size h) (kX2_size l z D cA q2 M _ h) rfl ⟨rfl, rfl⟩ ⟨Nat.le_of_ble_eq_true rfl, Nat.le_of_ble_eq_true rfl⟩ ⟨(Nat.le_of_ble_eq_true rfl), (Nat.le_of_ble_eq_true rfl)⟩ (Nat.le_of_ble_eq_true rfl) rfl dX10_isSetOfBooks_10 (x_pure (fun r3 h => ?_))
    refine x_ishl E dX10_isSetOfBooks_13 ?_
    refine x_icmp_ge (tgt := 21) E dX10_isSetOfBooks_14 (by decide) (fun c5 => ?_) (fun c5 => ?_)
    · replace h := xbr_t h c5
      clear c5
      refine x_iconst (v := (J 0)) E dX10_isSetOfBooks_21 (by decide) ?_
      exact x_zret E hr hlk dX10_isSetOfBooks_22 h.1 ⟨rfl, h.2⟩
    · replace h := xbr_f h c5
      clear c5
      refine x_iconst (v := (J 1)) E dX10_isSetOfBooks_17 (by decide) ?_
      refine x_goto (tgt := 22) E dX10_isSetOfBooks_18 (by decide) ?_
      exact x_zret E hr hlk dX10_isSetOfBooks_22 h.1 ⟨rfl, h.2⟩
theorem dX10_list_0 : decode cX10_list 0 = .ok (.aload_n 0, 1) := by decide +kernel
theorem dX10_list_1 : decode cX10_list 1 = .ok (.iload_n 1, 1) := by decide +kernel
theorem dX10_list_2 : decode cX10_list 2 = .ok (.invokevirtual 247, 3) := by decide +kernel
theorem dX10_list_5 : decode cX10_list 5 = .ok (.ifCond .ne 7, 3) := by decide +kernel
theorem dX10_list_8 : decode cX10_list 8 = .ok (.sipush (-1002), 3) := by decide +kernel
theorem dX10_list_11 : decode cX10_list 11 = .ok (.ireturn, 1) := by decide +kernel
theorem dX10_list_12 : decode cX10_list 12 = .ok (.aload_n 0, 1) := by decide +kernel
theorem dX10_list_13 : decode cX10_list 13 = .ok (.getfield 77, 3) := by decide +kernel
theorem dX10_list_16 : decode cX10_list 16 = .ok (.istore_n 2, 1) := by decide +kernel
theorem dX10_list_17 : decode cX10_list 17 = .ok (.aload_n 0, 1) := by decide +kernel
theorem dX10_list_18 : decode cX10_list 18 = .ok (.iload_n 1, 1) := by decide +kernel
theorem dX10_list_19 : decode cX10_list 19 = .ok (.putfield 77, 3) := by decide +kernel
theorem dX10_list_22 : decode cX10_list 22 = .ok (.iload_n 2, 1) := by decide +kernel
theorem dX10_list_23 : decode cX10_list 23 = .ok (.ireturn, 1) := by decide +kernel
set_option maxHeartbeats 4000000 in
set_option maxRecDepth 100000 in
theorem kX10_list (l : Launch) (z : Nat) (D : va_G) (cA : Nat → ClassId) (a0 : Nat) (x1 : Int32) (M : Mem) (K : Int32 → Mem → Prop) (h : PX10_list a0 x1 M K) : Met l yX10_list (.code yX10_list cX10_list 3 (some .int) :: gtbl) ({ frames := 2, cells := 0, slots := 0, locals := 41 } : Room) (va_Pc [.ref a0, .int x1] (xB z D cA M)) (va_Qi K (xWd z D cA) (xA z)) 0 0 (xA z) := by
  refine x_met (by decide +kernel) (Nat.le_of_ble_eq_true rfl) (L0 := [(0, .ref a0), (1, .int x1)]) rfl ?_
  intro p e s m args below meth c E hr hlk hnm
  have E : xE RX10 cX10_list 3 D cA p s m args c := E
  replace h := h.2
  refine x_aload_n E dX10_list_0 rfl 0 rfl ?_
  refine x_iload_n E dX10_list_1 rfl 1 rfl ?_
  refine x_callVi (T := TX10) (N := 13) (t := 11) (As := [.int x1]) E mlX10_247 inX10_isSetOfBooks seX10_isSetOfBooks rfl ⟨by decide, by decide⟩ (tX10_isSetOfBooks h) (kX10_isSetOfBooks l z D cA a0 x1 M _ h) rfl ⟨rfl, rfl⟩ ⟨Nat.le_of_ble_eq_true rfl, Nat.le_of_ble_eq_true rfl⟩ ⟨(Nat.le_of_ble_eq_true rfl), (Nat.le_of_ble_eq_true rfl)⟩ (Nat.le_of_ble_eq_true rfl) rfl dX10_list_2 (x_pure (fun r1 h => ?_))
  refine x_if_ne (tgt := 12) E dX10_list_5 (by decide) (fun c3 => ?_) (fun c3 => ?_)
  · replace h := xbr_f h c3
    clear c3
    refine x_aload_n E dX10_list_12 rfl 0 rfl ?_
    obtain ⟨hT, v4, hv, h⟩ := h
    refine x_get E flX10_77 dX10_list_13 hT hv ?_
    clear hT hv
    refine x_istore_n (L' := [(2, .int v4), (0, .ref a0), (1, .int x1)]) E dX10_list_16 rfl (by decide) rfl ?_
    refine x_aload_n E dX10_list_17 rfl 1 rfl ?_
    refine x_iload_n E dX10_list_18 rfl 2 rfl ?_
    obtain ⟨hT, h⟩ := h
    refine x_put E flX10_77 ⟨tyX10_ok, nmX10, rfl⟩ (by decide +kernel) rfl rfl dX10_list_19 hT (fun M5 eM5 => ?_)
    replace h := h M5 eM5
    clear hT eM5
    refine x_iload_n E dX10_list_22 rfl 0 rfl ?_
    exact x_iret E hr hlk dX10_list_23 h
  · replace h := xbr_t h c3
    clear c3
    refine x_sipush (v := (J (-1002))) E dX10_list_8 (by decide) ?_
    exact x_iret E hr hlk dX10_list_11 h
theorem dX10_stock_0 : decode cX10_stock 0 = .ok (.iload_n 1, 1) := by decide +kernel
theorem dX10_stock_1 : decode cX10_stock 1 = .ok (.lookupswitch 57 #[(0, 27), (1, 42)], 27) := by decide +kernel
theorem dX10_stock_28 : decode cX10_stock 28 = .ok (.aload_n 0, 1) := by decide +kernel
theorem dX10_stock_29 : decode cX10_stock 29 = .ok (.getfield 77, 3) := by decide +kernel
theorem dX10_stock_32 : decode cX10_stock 32 = .ok (.aload_n 0, 1) := by decide +kernel
theorem dX10_stock_33 : decode cX10_stock 33 = .ok (.getfield 35, 3) := by decide +kernel
theorem dX10_stock_36 : decode cX10_stock 36 = .ok (.invokevirtual 250, 3) := by decide +kernel
theorem dX10_stock_39 : decode cX10_stock 39 = .ok (.iconst (-1), 1) := by decide +kernel
theorem dX10_stock_40 : decode cX10_stock 40 = .ok (.ixor, 1) := by decide +kernel
theorem dX10_stock_41 : decode cX10_stock 41 = .ok (.iand, 1) := by decide +kernel
theorem dX10_stock_42 : decode cX10_stock 42 = .ok (.ireturn, 1) := by decide +kernel
theorem dX10_stock_43 : decode cX10_stock 43 = .ok (.aload_n 0, 1) := by decide +kernel
theorem dX10_stock_44 : decode cX10_stock 44 = .ok (.getfield 35, 3) := by decide +kernel
theorem dX10_stock_47 : decode cX10_stock 47 = .ok (.invokevirtual 250, 3) := by decide +kernel
theorem dX10_stock_50 : decode cX10_stock 50 = .ok (.aload_n 0, 1) := by decide +kernel
theorem dX10_stock_51 : decode cX10_stock 51 = .ok (.getfield 77, 3) := by decide +kernel
theorem dX10_stock_54 : decode cX10_stock 54 = .ok (.iconst (-1), 1) := by decide +kernel
theorem dX10_stock_55 : decode cX10_stock 55 = .ok (.ixor, 1) := by decide +kernel
theorem dX10_stock_56 : decode cX10_stock 56 = .ok (.iand, 1) := by decide +kernel
theorem dX10_stock_57 : decode cX10_stock 57 = .ok (.ireturn, 1) := by decide +kernel
theorem dX10_stock_58 : decode cX10_stock 58 = .ok (.sipush (-1002), 3) := by decide +kernel
theorem dX10_stock_61 : decode cX10_stock 61 = .ok (.ireturn, 1) := by decide +kernel
set_option maxHeartbeats 4000000 in
set_option maxRecDepth 100000 in
theorem kX10_stock (l : Launch) (z : Nat) (D : va_G) (cA : Nat → ClassId) (a0 : Nat) (x1 : Int32) (M : Mem) (K : Int32 → Prop) (h : PX10_stock a0 x1 M K) : Met l yX10_stock (.code yX10_stock cX10_stock 2 (some .int) :: gtbl) ({ frames := 3, cells := 0, slots := 0, locals := 64 } : Room) (va_Pc [.ref a0, .int x1] (xB z D cA M)) (va_Qi (fun r M1 => M1 = M ∧ K r) (xWd z D cA) (xA z)) 0 0 (xA z) := by
  refine x_met (by decide +kernel) (Nat.le_of_ble_eq_true rfl) (L0 := [(0, .ref a0), (1, .int x1)]) rfl ?_
  intro p e s m args below meth c E hr hlk hnm
  have E : xE RX10 cX10_stock 2 D cA p s m args c := E
  replace h := h.2
  refine x_iload_n E dX10_stock_0 rfl 1 rfl ?_
  by_cases c1 : x1 = (J 0)
  · replace h := xbr_t h c1
    refine x_lookup (off := 27) (tgt := 28) E dX10_stock_1 (by decide) (by rw [c1]; decide) (by decide) ?_
    refine x_aload_n E dX10_stock_28 rfl 0 rfl ?_
    obtain ⟨hT, v2, hv, h⟩ := h
    refine x_get E flX10_77 dX10_stock_29 hT hv ?_
    clear hT hv
    refine x_aload_n E dX10_stock_32 rfl 0 rfl ?_
    obtain ⟨hT, q3, hv, h⟩ := h
    refine x_get E flX10_35 dX10_stock_33 hT hv ?_
    clear hT hv
    refine x_callVi (T := TX6) (N := 3) (t := 7) (As := []) E mlX10_250 inX6_standing seX6_standing rfl ⟨by decide, by decide⟩ (tX6_standing h) (kX6_standing l z D cA q3 M _ h) rfl ⟨rfl, rfl⟩ ⟨Nat.le_of_ble_eq_true rfl, Nat.le_of_ble_eq_true rfl⟩ ⟨(Nat.le_of_ble_eq_true rfl), (Nat.le_of_ble_eq_true rfl)⟩ (Nat.le_of_ble_eq_true rfl) rfl dX10_stock_36 (x_pure (fun r4 h => ?_))
    refine x_iconst (v := (J (-1))) E dX10_stock_39 (by decide) ?_
    refine x_ixor E dX10_stock_40 ?_
    refine x_iand E dX10_stock_41 ?_
    exact x_iret E hr hlk dX10_stock_42 ⟨rfl, h⟩
  replace h := xbr_f h c1
  by_cases c6 : x1 = (J 1)
  · replace h := xbr_t h c6
    refine x_lookup (off := 42) (tgt := 43) E dX10_stock_1 (by decide) (by rw [c6]; decide) (by decide) ?_
    refine x_aload_n E dX10_stock_43 rfl 0 rfl ?_
    obtain ⟨hT, q7, hv, h⟩ := h
    refine x_get E flX10_35 dX10_stock_44 hT hv ?_
    clear hT hv
    refine x_callVi (T := TX6) (N := 3) (t := 7) (As := []) E mlX10_250 inX6_standing seX6_standing rfl ⟨by decide, by decide⟩ (tX6_standing h) (kX6_standing l z D cA q7 M _ h) rfl ⟨rfl, rfl⟩ ⟨Nat.le_of_ble_eq_true rfl, Nat.le_of_ble_eq_true rfl⟩ ⟨(Nat.le_of_ble_eq_true rfl), (Nat.le_of_ble_eq_true rfl)⟩ (Nat.le_of_ble_eq_true rfl) rfl dX10_stock_47 (x_pure (fun r8 h => ?_))
    refine x_aload_n E dX10_stock_50 rfl 0 rfl ?_
    obtain ⟨hT, v10, hv, h⟩ := h
    refine x_get E flX10_77 dX10_stock_51 hT hv ?_
    clear hT hv
    refine x_iconst (v := (J (-1))) E dX10_stock_54 (by decide) ?_
    refine x_ixor E dX10_stock_55 ?_
    refine x_iand E dX10_stock_56 ?_
    exact x_iret E hr hlk dX10_stock_57 ⟨rfl, h⟩
  replace h := xbr_f h c6
  refine x_lookup (off := 57) (tgt := 58) E dX10_stock_1 (by decide) ((lv_osw c1 (by decide)).trans ((lv_osw c6 (by decide)).trans rfl)) (by decide) ?_
  clear c1 c6
  refine x_sipush (v := (J (-1002))) E dX10_stock_58 (by decide) ?_
  exact x_iret E hr hlk dX10_stock_61 ⟨rfl, h⟩
theorem dX10_habit_0 : decode cX10_habit 0 = .ok (.iload_n 1, 1) := by decide +kernel
theorem dX10_habit_1 : decode cX10_habit 1 = .ok (.invokestatic 151, 3) := by decide +kernel
theorem dX10_habit_4 : decode cX10_habit 4 = .ok (.ifCond .ne 7, 3) := by decide +kernel
theorem dX10_habit_7 : decode cX10_habit 7 = .ok (.sipush (-1001), 3) := by decide +kernel
theorem dX10_habit_10 : decode cX10_habit 10 = .ok (.ireturn, 1) := by decide +kernel
theorem dX10_habit_11 : decode cX10_habit 11 = .ok (.iload_n 2, 1) := by decide +kernel
theorem dX10_habit_12 : decode cX10_habit 12 = .ok (.ifCond .lt 9, 3) := by decide +kernel
theorem dX10_habit_15 : decode cX10_habit 15 = .ok (.iload_n 2, 1) := by decide +kernel
theorem dX10_habit_16 : decode cX10_habit 16 = .ok (.bipush 99, 2) := by decide +kernel
theorem dX10_habit_18 : decode cX10_habit 18 = .ok (.if_icmp .le 7, 3) := by decide +kernel
theorem dX10_habit_21 : decode cX10_habit 21 = .ok (.sipush (-1002), 3) := by decide +kernel
theorem dX10_habit_24 : decode cX10_habit 24 = .ok (.ireturn, 1) := by decide +kernel
theorem dX10_habit_25 : decode cX10_habit 25 = .ok (.aload_n 0, 1) := by decide +kernel
theorem dX10_habit_26 : decode cX10_habit 26 = .ok (.getfield 52, 3) := by decide +kernel
theorem dX10_habit_29 : decode cX10_habit 29 = .ok (.iload_n 1, 1) := by decide +kernel
theorem dX10_habit_30 : decode cX10_habit 30 = .ok (.invokevirtual 253, 3) := by decide +kernel
theorem dX10_habit_33 : decode cX10_habit 33 = .ok (.istore_n 3, 1) := by decide +kernel
theorem dX10_habit_34 : decode cX10_habit 34 = .ok (.aload_n 0, 1) := by decide +kernel
theorem dX10_habit_35 : decode cX10_habit 35 = .ok (.getfield 52, 3) := by decide +kernel
theorem dX10_habit_38 : decode cX10_habit 38 = .ok (.iload_n 1, 1) := by decide +kernel
theorem dX10_habit_39 : decode cX10_habit 39 = .ok (.iload_n 2, 1) := by decide +kernel
theorem dX10_habit_40 : decode cX10_habit 40 = .ok (.invokevirtual 256, 3) := by decide +kernel
theorem dX10_habit_43 : decode cX10_habit 43 = .ok (.iload_n 3, 1) := by decide +kernel
theorem dX10_habit_44 : decode cX10_habit 44 = .ok (.ireturn, 1) := by decide +kernel
set_option maxHeartbeats 4000000 in
set_option maxRecDepth 100000 in
theorem kX10_habit (l : Launch) (z : Nat) (D : va_G) (cA : Nat → ClassId) (a0 : Nat) (x1 : Int32) (x2 : Int32) (M : Mem) (K : Int32 → Mem → Prop) (h : PX10_habit a0 x1 x2 M K) : Met l yX10_habit (.code yX10_habit cX10_habit 4 (some .int) :: gtbl) ({ frames := 2, cells := 0, slots := 0, locals := 44 } : Room) (va_Pc [.ref a0, .int x1, .int x2] (xB z D cA M)) (va_Qi K (xWd z D cA) (xA z)) 0 0 (xA z) := by
  refine x_met (by decide +kernel) (Nat.le_of_ble_eq_true rfl) (L0 := [(0, .ref a0), (1, .int x1), (2, .int x2)]) rfl ?_
  intro p e s m args below meth c E hr hlk hnm
  have E : xE RX10 cX10_habit 4 D cA p s m args c := E
  replace h := h.2
  refine x_iload_n E dX10_habit_0 rfl 1 rfl ?_
  refine x_callSi (As := [.int x1]) E mlX10_151 rfl stX10_isReading (kX10_isReading l z D cA x1 M _ h) rfl ⟨rfl, rfl⟩ ⟨Nat.le_of_ble_eq_true rfl, Nat.le_of_ble_eq_true rfl⟩ ⟨(Nat.le_of_ble_eq_true rfl), (Nat.le_of_ble_eq_true rfl)⟩ (Nat.le_of_ble_eq_true rfl) rfl dX10_habit_1 (x_pure (fun r1 h => ?_))
  refine x_if_ne (tgt := 11) E dX10_habit_4 (by decide) (fun c3 => ?_) (fun c3 => ?_)
  · replace h := xbr_f h c3
    clear c3
    refine x_iload_n E dX10_habit_11 rfl 2 rfl ?_
    refine x_if_lt (tgt := 21) E dX10_habit_12 (by decide) (fun c4 => ?_) (fun c4 => ?_)
    · replace h := xbr_t h c4
      clear c4
      refine x_sipush (v := (J (-1002))) E dX10_habit_21 (by decide) ?_
      exact x_iret E hr hlk dX10_habit_24 h
    · replace h := xbr_f h c4
      clear c4
      refine x_iload_n E dX10_habit_15 rfl 2 rfl ?_
      refine x_bipush (v := (J 99)) E dX10_habit_16 (by decide) ?_
      refine x_icmp_le (tgt := 25) E dX10_habit_18 (by decide) (fun c5 => ?_) (fun c5 => ?_)
      · replace h := xbr_t h c5
        clear c5
        refine x_aload_n E dX10_habit_25 rfl 0 rfl ?_
        obtain ⟨hT, q6, hv, h⟩ := h
        refine x_get E flX10_52 dX10_habit_26 hT hv ?_
        clear hT hv
        refine x_iload_n E dX10_habit_29 rfl 1 rfl ?_
        refine x_callVi (T := TX3) (N := 1) (t := 4) (As := [.int x1]) E mlX10_253 inX3_weight seX3_weight rfl ⟨by decide, by decide⟩ (tX3_weight h) (kX3_weight l z D cA q6 x1 M _ h) rfl ⟨rfl, rfl⟩ ⟨Nat.le_of_ble_eq_true rfl, Nat.le_of_ble_eq_true rfl⟩ ⟨(Nat.le_of_ble_eq_true rfl), (Nat.le_of_ble_eq_true rfl)⟩ (Nat.le_of_ble_eq_true rfl) rfl dX10_habit_30 (x_pure (fun r7 h => ?_))
        refine x_istore_n (L' := [(3, .int r7), (0, .ref a0), (1, .int x1), (2, .int x2)]) E dX10_habit_33 rfl (by decide) rfl ?_
        refine x_aload_n E dX10_habit_34 rfl 1 rfl ?_
        obtain ⟨hT, q9, hv, h⟩ := h
        refine x_get E flX10_52 dX10_habit_35 hT hv ?_
        clear hT hv
        refine x_iload_n E dX10_habit_38 rfl 2 rfl ?_
        refine x_iload_n E dX10_habit_39 rfl 3 rfl ?_
        refine x_callVv (T := TX3) (N := 1) (t := 4) (As := [.int x1, .int x2]) E mlX10_256 inX3_weigh seX3_weigh rfl ⟨by decide, by decide⟩ (tX3_weigh h) (kX3_weigh l z D cA q9 x1 x2 M _ h) rfl ⟨rfl, rfl⟩ ⟨Nat.le_of_ble_eq_true rfl, Nat.le_of_ble_eq_true rfl⟩ ⟨(Nat.le_of_ble_eq_true rfl), (Nat.le_of_ble_eq_true rfl)⟩ (Nat.le_of_ble_eq_true rfl) rfl dX10_habit_40 (fun M11 h => ?_)
        refine x_iload_n E dX10_habit_43 rfl 0 rfl ?_
        exact x_iret E hr hlk dX10_habit_44 h
      · replace h := xbr_f h c5
        clear c5
        refine x_sipush (v := (J (-1002))) E dX10_habit_21 (by decide) ?_
        exact x_iret E hr hlk dX10_habit_24 h
  · replace h := xbr_t h c3
    clear c3
    refine x_sipush (v := (J (-1001))) E dX10_habit_7 (by decide) ?_
    exact x_iret E hr hlk dX10_habit_10 h
theorem dX10_likely_0 : decode cX10_likely 0 = .ok (.aload_n 0, 1) := by decide +kernel
theorem dX10_likely_1 : decode cX10_likely 1 = .ok (.getfield 21, 3) := by decide +kernel
theorem dX10_likely_4 : decode cX10_likely 4 = .ok (.iload_n 1, 1) := by decide +kernel
theorem dX10_likely_5 : decode cX10_likely 5 = .ok (.invokevirtual 113, 3) := by decide +kernel
theorem dX10_likely_8 : decode cX10_likely 8 = .ok (.ifCond .eq 10, 3) := by decide +kernel
theorem dX10_likely_11 : decode cX10_likely 11 = .ok (.iload_n 2, 1) := by decide +kernel
theorem dX10_likely_12 : decode cX10_likely 12 = .ok (.invokestatic 176, 3) := by decide +kernel
theorem dX10_likely_15 : decode cX10_likely 15 = .ok (.ifCond .ne 7, 3) := by decide +kernel
theorem dX10_likely_18 : decode cX10_likely 18 = .ok (.sipush (-1001), 3) := by decide +kernel
theorem dX10_likely_21 : decode cX10_likely 21 = .ok (.ireturn, 1) := by decide +kernel
theorem dX10_likely_22 : decode cX10_likely 22 = .ok (.aload_n 0, 1) := by decide +kernel
theorem dX10_likely_23 : decode cX10_likely 23 = .ok (.getfield 35, 3) := by decide +kernel
theorem dX10_likely_26 : decode cX10_likely 26 = .ok (.iload_n 1, 1) := by decide +kernel
theorem dX10_likely_27 : decode cX10_likely 27 = .ok (.invokevirtual 136, 3) := by decide +kernel
theorem dX10_likely_30 : decode cX10_likely 30 = .ok (.ifCond .eq 9, 3) := by decide +kernel
theorem dX10_likely_33 : decode cX10_likely 33 = .ok (.sipush (-1003), 3) := by decide +kernel
theorem dX10_likely_36 : decode cX10_likely 36 = .ok (.goto 20, 3) := by decide +kernel
theorem dX10_likely_39 : decode cX10_likely 39 = .ok (.aload_n 0, 1) := by decide +kernel
theorem dX10_likely_40 : decode cX10_likely 40 = .ok (.getfield 52, 3) := by decide +kernel
theorem dX10_likely_43 : decode cX10_likely 43 = .ok (.aload_n 0, 1) := by decide +kernel
theorem dX10_likely_44 : decode cX10_likely 44 = .ok (.getfield 35, 3) := by decide +kernel
theorem dX10_likely_47 : decode cX10_likely 47 = .ok (.aload_n 0, 1) := by decide +kernel
theorem dX10_likely_48 : decode cX10_likely 48 = .ok (.getfield 21, 3) := by decide +kernel
theorem dX10_likely_51 : decode cX10_likely 51 = .ok (.iload_n 1, 1) := by decide +kernel
theorem dX10_likely_52 : decode cX10_likely 52 = .ok (.iload_n 2, 1) := by decide +kernel
theorem dX10_likely_53 : decode cX10_likely 53 = .ok (.invokevirtual 259, 3) := by decide +kernel
theorem dX10_likely_56 : decode cX10_likely 56 = .ok (.ireturn, 1) := by decide +kernel
set_option maxHeartbeats 4000000 in
set_option maxRecDepth 100000 in
theorem kX10_likely (l : Launch) (z : Nat) (D : va_G) (cA : Nat → ClassId) (a0 : Nat) (x1 : Int32) (x2 : Int32) (M : Mem) (K : Int32 → Prop) (h : PX10_likely a0 x1 x2 M K) : Met l yX10_likely (.code yX10_likely cX10_likely 3 (some .int) :: gtbl) ({ frames := 5, cells := 0, slots := 0, locals := 122 } : Room) (va_Pc [.ref a0, .int x1, .int x2] (xB z D cA M)) (va_Qi (fun r M1 => M1 = M ∧ K r) (xWd z D cA) (xA z)) 0 0 (xA z) := by
  refine x_met (by decide +kernel) (Nat.le_of_ble_eq_true rfl) (L0 := [(0, .ref a0), (1, .int x1), (2, .int x2)]) rfl ?_
  intro p e s m args below meth c E hr hlk hnm
  have E : xE RX10 cX10_likely 3 D cA p s m args c := E
  replace h := h.2
  refine x_aload_n E dX10_likely_0 rfl 0 rfl ?_
  obtain ⟨hT, q1, hv, h⟩ := h
  refine x_get E flX10_21 dX10_likely_1 hT hv ?_
  clear hT hv
  refine x_iload_n E dX10_likely_4 rfl 1 rfl ?_
  refine x_callVi (T := TX2) (N := 4) (t := 3) (As := [.int x1]) E mlX10_113 inX2_has seX2_has rfl ⟨by decide, by decide⟩ (tX2_has h) (kX2_has l z D cA q1 x1 M _ h) rfl ⟨rfl, rfl⟩ ⟨Nat.le_of_ble_eq_true rfl, Nat.le_of_ble_eq_true rfl⟩ ⟨(Nat.le_of_ble_eq_true rfl), (Nat.le_of_ble_eq_true rfl)⟩ (Nat.le_of_ble_eq_true rfl) rfl dX10_likely_5 (x_pure (fun r2 h => ?_))
  refine x_if_eq (tgt := 18) E dX10_likely_8 (by decide) (fun c4 => ?_) (fun c4 => ?_)
  · replace h := xbr_t h c4
    clear c4
    refine x_sipush (v := (J (-1001))) E dX10_likely_18 (by decide) ?_
    exact x_iret E hr hlk dX10_likely_21 ⟨rfl, h⟩
  · replace h := xbr_f h c4
    clear c4
    refine x_iload_n E dX10_likely_11 rfl 2 rfl ?_
    refine x_callSi (As := [.int x2]) E mlX10_176 rfl stX10_isShelf (kX10_isShelf l z D cA x2 M _ h) rfl ⟨rfl, rfl⟩ ⟨Nat.le_of_ble_eq_true rfl, Nat.le_of_ble_eq_true rfl⟩ ⟨(Nat.le_of_ble_eq_true rfl), (Nat.le_of_ble_eq_true rfl)⟩ (Nat.le_of_ble_eq_true rfl) rfl dX10_likely_12 (x_pure (fun r5 h => ?_))
    refine x_if_ne (tgt := 22) E dX10_likely_15 (by decide) (fun c7 => ?_) (fun c7 => ?_)
    · replace h := xbr_f h c7
      clear c7
      refine x_aload_n E dX10_likely_22 rfl 0 rfl ?_
      obtain ⟨hT, q8, hv, h⟩ := h
      refine x_get E flX10_35 dX10_likely_23 hT hv ?_
      clear hT hv
      refine x_iload_n E dX10_likely_26 rfl 1 rfl ?_
      refine x_callVi (T := TX6) (N := 3) (t := 7) (As := [.int x1]) E mlX10_136 inX6_stands seX6_stands rfl ⟨by decide, by decide⟩ (tX6_stands h) (kX6_stands l z D cA q8 x1 M _ h) rfl ⟨rfl, rfl⟩ ⟨Nat.le_of_ble_eq_true rfl, Nat.le_of_ble_eq_true rfl⟩ ⟨(Nat.le_of_ble_eq_true rfl), (Nat.le_of_ble_eq_true rfl)⟩ (Nat.le_of_ble_eq_true rfl) rfl dX10_likely_27 (x_pure (fun r9 h => ?_))
      refine x_if_eq (tgt := 39) E dX10_likely_30 (by decide) (fun c11 => ?_) (fun c11 => ?_)
      · replace h := xbr_t h c11
        clear c11
        refine x_aload_n E dX10_likely_39 rfl 0 rfl ?_
        obtain ⟨hT, q12, hv, h⟩ := h
        refine x_get E flX10_52 dX10_likely_40 hT hv ?_
        clear hT hv
        refine x_aload_n E dX10_likely_43 rfl 0 rfl ?_
        obtain ⟨hT, q13, hv, h⟩ := h
        refine x_get E flX10_35 dX10_likely_44 hT hv ?_
        clear hT hv
        refine x_aload_n E dX10_likely_47 rfl 0 rfl ?_
        obtain ⟨hT, q14, hv, h⟩ := h
        refine x_get E flX10_21 dX10_likely_48 hT hv ?_
        clear hT hv
        refine x_iload_n E dX10_likely_51 rfl 1 rfl ?_
        refine x_iload_n E dX10_likely_52 rfl 2 rfl ?_
        refine x_callVi (T := TX3) (N := 1) (t := 4) (As := [.ref q13, .ref q14, .int x1, .int x2]) E mlX10_259 inX3_chance seX3_chance rfl ⟨by decide, by decide⟩ (tX3_chance h) (kX3_chance l z D cA q12 q13 q14 x1 x2 M _ h) rfl ⟨rfl, rfl⟩ ⟨Nat.le_of_ble_eq_true rfl, Nat.le_of_ble_eq_true rfl⟩ ⟨(Nat.le_of_ble_eq_true rfl), (Nat.le_of_ble_eq_true rfl)⟩ (Nat.le_of_ble_eq_true rfl) rfl dX10_likely_53 (x_pure (fun r15 h => ?_))
        exact x_iret E hr hlk dX10_likely_56 ⟨rfl, h⟩
      · replace h := xbr_f h c11
        clear c11
        refine x_sipush (v := (J (-1003))) E dX10_likely_33 (by decide) ?_
        refine x_goto (tgt := 56) E dX10_likely_36 (by decide) ?_
        exact x_iret E hr hlk dX10_likely_56 ⟨rfl, h⟩
    · replace h := xbr_t h c7
      clear c7
      refine x_sipush (v := (J (-1001))) E dX10_likely_18 (by decide) ?_
      exact x_iret E hr hlk dX10_likely_21 ⟨rfl, h⟩
theorem dX10_search_0 : decode cX10_search 0 = .ok (.aload_n 0, 1) := by decide +kernel
theorem dX10_search_1 : decode cX10_search 1 = .ok (.getfield 21, 3) := by decide +kernel
theorem dX10_search_4 : decode cX10_search 4 = .ok (.iload_n 1, 1) := by decide +kernel
theorem dX10_search_5 : decode cX10_search 5 = .ok (.invokevirtual 113, 3) := by decide +kernel
theorem dX10_search_8 : decode cX10_search 8 = .ok (.ifCond .ne 7, 3) := by decide +kernel
theorem dX10_search_11 : decode cX10_search 11 = .ok (.sipush (-1001), 3) := by decide +kernel
theorem dX10_search_14 : decode cX10_search 14 = .ok (.ireturn, 1) := by decide +kernel
theorem dX10_search_15 : decode cX10_search 15 = .ok (.aload_n 0, 1) := by decide +kernel
theorem dX10_search_16 : decode cX10_search 16 = .ok (.getfield 35, 3) := by decide +kernel
theorem dX10_search_19 : decode cX10_search 19 = .ok (.iload_n 1, 1) := by decide +kernel
theorem dX10_search_20 : decode cX10_search 20 = .ok (.invokevirtual 136, 3) := by decide +kernel
theorem dX10_search_23 : decode cX10_search 23 = .ok (.ifCond .eq 7, 3) := by decide +kernel
theorem dX10_search_26 : decode cX10_search 26 = .ok (.sipush (-1003), 3) := by decide +kernel
theorem dX10_search_29 : decode cX10_search 29 = .ok (.ireturn, 1) := by decide +kernel
theorem dX10_search_30 : decode cX10_search 30 = .ok (.aload_n 0, 1) := by decide +kernel
theorem dX10_search_31 : decode cX10_search 31 = .ok (.getfield 59, 3) := by decide +kernel
theorem dX10_search_34 : decode cX10_search 34 = .ok (.aload_n 0, 1) := by decide +kernel
theorem dX10_search_35 : decode cX10_search 35 = .ok (.getfield 35, 3) := by decide +kernel
theorem dX10_search_38 : decode cX10_search 38 = .ok (.aload_n 0, 1) := by decide +kernel
theorem dX10_search_39 : decode cX10_search 39 = .ok (.getfield 21, 3) := by decide +kernel
theorem dX10_search_42 : decode cX10_search 42 = .ok (.aload_n 0, 1) := by decide +kernel
theorem dX10_search_43 : decode cX10_search 43 = .ok (.getfield 52, 3) := by decide +kernel
theorem dX10_search_46 : decode cX10_search 46 = .ok (.iload_n 1, 1) := by decide +kernel
theorem dX10_search_47 : decode cX10_search 47 = .ok (.invokevirtual 263, 3) := by decide +kernel
theorem dX10_search_50 : decode cX10_search 50 = .ok (.aload_n 0, 1) := by decide +kernel
theorem dX10_search_51 : decode cX10_search 51 = .ok (.getfield 59, 3) := by decide +kernel
theorem dX10_search_54 : decode cX10_search 54 = .ok (.aload_n 0, 1) := by decide +kernel
theorem dX10_search_55 : decode cX10_search 55 = .ok (.getfield 35, 3) := by decide +kernel
theorem dX10_search_58 : decode cX10_search 58 = .ok (.invokevirtual 267, 3) := by decide +kernel
theorem dX10_search_61 : decode cX10_search 61 = .ok (.iload_n 2, 1) := by decide +kernel
theorem dX10_search_62 : decode cX10_search 62 = .ok (.iconst (-1), 1) := by decide +kernel
theorem dX10_search_63 : decode cX10_search 63 = .ok (.if_icmp .ne 13, 3) := by decide +kernel
theorem dX10_search_66 : decode cX10_search 66 = .ok (.aload_n 0, 1) := by decide +kernel
theorem dX10_search_67 : decode cX10_search 67 = .ok (.getfield 59, 3) := by decide +kernel
theorem dX10_search_70 : decode cX10_search 70 = .ok (.invokevirtual 270, 3) := by decide +kernel
theorem dX10_search_73 : decode cX10_search 73 = .ok (.goto 11, 3) := by decide +kernel
theorem dX10_search_76 : decode cX10_search 76 = .ok (.aload_n 0, 1) := by decide +kernel
theorem dX10_search_77 : decode cX10_search 77 = .ok (.getfield 59, 3) := by decide +kernel
theorem dX10_search_80 : decode cX10_search 80 = .ok (.iload_n 2, 1) := by decide +kernel
theorem dX10_search_81 : decode cX10_search 81 = .ok (.invokevirtual 273, 3) := by decide +kernel
theorem dX10_search_84 : decode cX10_search 84 = .ok (.ireturn, 1) := by decide +kernel
set_option maxHeartbeats 4000000 in
set_option maxRecDepth 100000 in
theorem kX10_search (l : Launch) (z : Nat) (D : va_G) (cA : Nat → ClassId) (a0 : Nat) (x1 : Int32) (x2 : Int32) (M : Mem) (K : Int32 → Mem → Prop) (h : PX10_search a0 x1 x2 M K) : Met l yX10_search (.code yX10_search cX10_search 3 (some .int) :: gtbl) ({ frames := 6, cells := 0, slots := 0, locals := 148 } : Room) (va_Pc [.ref a0, .int x1, .int x2] (xB z D cA M)) (va_Qi K (xWd z D cA) (xA z)) 0 0 (xA z) := by
  refine x_met (by decide +kernel) (Nat.le_of_ble_eq_true rfl) (L0 := [(0, .ref a0), (1, .int x1), (2, .int x2)]) rfl ?_
  intro p e s m args below meth c E hr hlk hnm
  have E : xE RX10 cX10_search 3 D cA p s m args c := E
  replace h := h.2
  refine x_aload_n E dX10_search_0 rfl 0 rfl ?_
  obtain ⟨hT, q1, hv, h⟩ := h
  refine x_get E flX10_21 dX10_search_1 hT hv ?_
  clear hT hv
  refine x_iload_n E dX10_search_4 rfl 1 rfl ?_
  refine x_callVi (T := TX2) (N := 4) (t := 3) (As := [.int x1]) E mlX10_113 inX2_has seX2_has rfl ⟨by decide, by decide⟩ (tX2_has h) (kX2_has l z D cA q1 x1 M _ h) rfl ⟨rfl, rfl⟩ ⟨Nat.le_of_ble_eq_true rfl, Nat.le_of_ble_eq_true rfl⟩ ⟨(Nat.le_of_ble_eq_true rfl), (Nat.le_of_ble_eq_true rfl)⟩ (Nat.le_of_ble_eq_true rfl) rfl dX10_search_5 (x_pure (fun r2 h => ?_))
  refine x_if_ne (tgt := 15) E dX10_search_8 (by decide) (fun c4 => ?_) (fun c4 => ?_)
  · replace h := xbr_f h c4
    clear c4
    refine x_aload_n E dX10_search_15 rfl 0 rfl ?_
    obtain ⟨hT, q5, hv, h⟩ := h
    refine x_get E flX10_35 dX10_search_16 hT hv ?_
    clear hT hv
    refine x_iload_n E dX10_search_19 rfl 1 rfl ?_
    refine x_callVi (T := TX6) (N := 3) (t := 7) (As := [.int x1]) E mlX10_136 inX6_stands seX6_stands rfl ⟨by decide, by decide⟩ (tX6_stands h) (kX6_stands l z D cA q5 x1 M _ h) rfl ⟨rfl, rfl⟩ ⟨Nat.le_of_ble_eq_true rfl, Nat.le_of_ble_eq_true rfl⟩ ⟨(Nat.le_of_ble_eq_true rfl), (Nat.le_of_ble_eq_true rfl)⟩ (Nat.le_of_ble_eq_true rfl) rfl dX10_search_20 (x_pure (fun r6 h => ?_))
    refine x_if_eq (tgt := 30) E dX10_search_23 (by decide) (fun c8 => ?_) (fun c8 => ?_)
    · replace h := xbr_t h c8
      clear c8
      refine x_aload_n E dX10_search_30 rfl 0 rfl ?_
      obtain ⟨hT, q9, hv, h⟩ := h
      refine x_get E flX10_59 dX10_search_31 hT hv ?_
      clear hT hv
      refine x_aload_n E dX10_search_34 rfl 0 rfl ?_
      obtain ⟨hT, q10, hv, h⟩ := h
      refine x_get E flX10_35 dX10_search_35 hT hv ?_
      clear hT hv
      refine x_aload_n E dX10_search_38 rfl 0 rfl ?_
      obtain ⟨hT, q11, hv, h⟩ := h
      refine x_get E flX10_21 dX10_search_39 hT hv ?_
      clear hT hv
      refine x_aload_n E dX10_search_42 rfl 0 rfl ?_
      obtain ⟨hT, q12, hv, h⟩ := h
      refine x_get E flX10_52 dX10_search_43 hT hv ?_
      clear hT hv
      refine x_iload_n E dX10_search_46 rfl 1 rfl ?_
      refine x_callVv (T := TX7) (N := 5) (t := 8) (As := [.ref q10, .ref q11, .ref q12, .int x1]) E mlX10_263 inX7_begin seX7_begin rfl ⟨by decide, by decide⟩ (tX7_begin h) (kX7_begin l z D cA q9 q10 q11 q12 x1 M _ h) rfl ⟨rfl, rfl⟩ ⟨Nat.le_of_ble_eq_true rfl, Nat.le_of_ble_eq_true rfl⟩ ⟨(Nat.le_of_ble_eq_true rfl), (Nat.le_of_ble_eq_true rfl)⟩ (Nat.le_of_ble_eq_true rfl) rfl dX10_search_47 (fun M14 h => ?_)
      refine x_aload_n E dX10_search_50 rfl 0 rfl ?_
      obtain ⟨hT, q15, hv, h⟩ := h
      refine x_get E flX10_59 dX10_search_51 hT hv ?_
      clear hT hv
      refine x_aload_n E dX10_search_54 rfl 0 rfl ?_
      obtain ⟨hT, q16, hv, h⟩ := h
      refine x_get E flX10_35 dX10_search_55 hT hv ?_
      clear hT hv
      refine x_callVv (T := TX7) (N := 5) (t := 8) (As := [.ref q16]) E mlX10_267 inX7_find seX7_find rfl ⟨by decide, by decide⟩ (tX7_find h) (kX7_find l z D cA q15 q16 M14 _ h) rfl ⟨rfl, rfl⟩ ⟨Nat.le_of_ble_eq_true rfl, Nat.le_of_ble_eq_true rfl⟩ ⟨(Nat.le_of_ble_eq_true rfl), (Nat.le_of_ble_eq_true rfl)⟩ (Nat.le_of_ble_eq_true rfl) rfl dX10_search_58 (fun M18 h => ?_)
      refine x_iload_n E dX10_search_61 rfl 2 rfl ?_
      refine x_iconst (v := (J (-1))) E dX10_search_62 (by decide) ?_
      refine x_icmp_ne (tgt := 76) E dX10_search_63 (by decide) (fun c19 => ?_) (fun c19 => ?_)
      · replace h := xbr_f h c19
        clear c19
        refine x_aload_n E dX10_search_76 rfl 0 rfl ?_
        obtain ⟨hT, q20, hv, h⟩ := h
        refine x_get E flX10_59 dX10_search_77 hT hv ?_
        clear hT hv
        refine x_iload_n E dX10_search_80 rfl 2 rfl ?_
        refine x_callVi (T := TX7) (N := 5) (t := 8) (As := [.int x2]) E mlX10_273 inX7_shelfAt seX7_shelfAt rfl ⟨by decide, by decide⟩ (tX7_shelfAt h) (kX7_shelfAt l z D cA q20 x2 M18 _ h) rfl ⟨rfl, rfl⟩ ⟨Nat.le_of_ble_eq_true rfl, Nat.le_of_ble_eq_true rfl⟩ ⟨(Nat.le_of_ble_eq_true rfl), (Nat.le_of_ble_eq_true rfl)⟩ (Nat.le_of_ble_eq_true rfl) rfl dX10_search_81 (x_pure (fun r21 h => ?_))
        exact x_iret E hr hlk dX10_search_84 h
      · replace h := xbr_t h c19
        clear c19
        refine x_aload_n E dX10_search_66 rfl 0 rfl ?_
        obtain ⟨hT, q23, hv, h⟩ := h
        refine x_get E flX10_59 dX10_search_67 hT hv ?_
        clear hT hv
        refine x_callVi (T := TX7) (N := 5) (t := 8) (As := []) E mlX10_270 inX7_leastCost seX7_leastCost rfl ⟨by decide, by decide⟩ (tX7_leastCost h) (kX7_leastCost l z D cA q23 M18 _ h) rfl ⟨rfl, rfl⟩ ⟨Nat.le_of_ble_eq_true rfl, Nat.le_of_ble_eq_true rfl⟩ ⟨(Nat.le_of_ble_eq_true rfl), (Nat.le_of_ble_eq_true rfl)⟩ (Nat.le_of_ble_eq_true rfl) rfl dX10_search_70 (x_pure (fun r24 h => ?_))
        refine x_goto (tgt := 84) E dX10_search_73 (by decide) ?_
        exact x_iret E hr hlk dX10_search_84 h
    · replace h := xbr_f h c8
      clear c8
      refine x_sipush (v := (J (-1003))) E dX10_search_26 (by decide) ?_
      exact x_iret E hr hlk dX10_search_29 h
  · replace h := xbr_t h c4
    clear c4
    refine x_sipush (v := (J (-1001))) E dX10_search_11 (by decide) ?_
    exact x_iret E hr hlk dX10_search_14 h
theorem dX10_seed_0 : decode cX10_seed 0 = .ok (.iload_n 1, 1) := by decide +kernel
theorem dX10_seed_1 : decode cX10_seed 1 = .ok (.ifCond .ge 7, 3) := by decide +kernel
theorem dX10_seed_4 : decode cX10_seed 4 = .ok (.sipush (-1002), 3) := by decide +kernel
theorem dX10_seed_7 : decode cX10_seed 7 = .ok (.ireturn, 1) := by decide +kernel
theorem dX10_seed_8 : decode cX10_seed 8 = .ok (.aload_n 0, 1) := by decide +kernel
theorem dX10_seed_9 : decode cX10_seed 9 = .ok (.getfield 80, 3) := by decide +kernel
theorem dX10_seed_12 : decode cX10_seed 12 = .ok (.istore_n 2, 1) := by decide +kernel
theorem dX10_seed_13 : decode cX10_seed 13 = .ok (.aload_n 0, 1) := by decide +kernel
theorem dX10_seed_14 : decode cX10_seed 14 = .ok (.iload_n 1, 1) := by decide +kernel
theorem dX10_seed_15 : decode cX10_seed 15 = .ok (.putfield 80, 3) := by decide +kernel
theorem dX10_seed_18 : decode cX10_seed 18 = .ok (.iload_n 2, 1) := by decide +kernel
theorem dX10_seed_19 : decode cX10_seed 19 = .ok (.ireturn, 1) := by decide +kernel
set_option maxHeartbeats 4000000 in
set_option maxRecDepth 100000 in
theorem kX10_seed (l : Launch) (z : Nat) (D : va_G) (cA : Nat → ClassId) (a0 : Nat) (x1 : Int32) (M : Mem) (K : Int32 → Mem → Prop) (h : PX10_seed a0 x1 M K) : Met l yX10_seed (.code yX10_seed cX10_seed 3 (some .int) :: gtbl) ({ frames := 0, cells := 0, slots := 0, locals := 0 } : Room) (va_Pc [.ref a0, .int x1] (xB z D cA M)) (va_Qi K (xWd z D cA) (xA z)) 0 0 (xA z) := by
  refine x_met (by decide +kernel) (Nat.le_of_ble_eq_true rfl) (L0 := [(0, .ref a0), (1, .int x1)]) rfl ?_
  intro p e s m args below meth c E hr hlk hnm
  have E : xE RX10 cX10_seed 3 D cA p s m args c := E
  replace h := h.2
  refine x_iload_n E dX10_seed_0 rfl 1 rfl ?_
  refine x_if_ge (tgt := 8) E dX10_seed_1 (by decide) (fun c1 => ?_) (fun c1 => ?_)
  · replace h := xbr_t h c1
    clear c1
    refine x_aload_n E dX10_seed_8 rfl 0 rfl ?_
    obtain ⟨hT, v2, hv, h⟩ := h
    refine x_get E flX10_80 dX10_seed_9 hT hv ?_
    clear hT hv
    refine x_istore_n (L' := [(2, .int v2), (0, .ref a0), (1, .int x1)]) E dX10_seed_12 rfl (by decide) rfl ?_
    refine x_aload_n E dX10_seed_13 rfl 1 rfl ?_
    refine x_iload_n E dX10_seed_14 rfl 2 rfl ?_
    obtain ⟨hT, h⟩ := h
    refine x_put E flX10_80 ⟨tyX10_ok, nmX10, rfl⟩ (by decide +kernel) rfl rfl dX10_seed_15 hT (fun M3 eM3 => ?_)
    replace h := h M3 eM3
    clear hT eM3
    refine x_iload_n E dX10_seed_18 rfl 0 rfl ?_
    exact x_iret E hr hlk dX10_seed_19 h
  · replace h := xbr_f h c1
    clear c1
    refine x_sipush (v := (J (-1002))) E dX10_seed_4 (by decide) ?_
    exact x_iret E hr hlk dX10_seed_7 h
theorem dX10_draw_0 : decode cX10_draw 0 = .ok (.aload_n 0, 1) := by decide +kernel
theorem dX10_draw_1 : decode cX10_draw 1 = .ok (.aload_n 0, 1) := by decide +kernel
theorem dX10_draw_2 : decode cX10_draw 2 = .ok (.getfield 80, 3) := by decide +kernel
theorem dX10_draw_5 : decode cX10_draw 5 = .ok (.i2l, 1) := by decide +kernel
theorem dX10_draw_6 : decode cX10_draw 6 = .ok (.ldc2_w 318, 3) := by decide +kernel
theorem dX10_draw_9 : decode cX10_draw 9 = .ok (.lmul, 1) := by decide +kernel
theorem dX10_draw_10 : decode cX10_draw 10 = .ok (.ldc2_w 320, 3) := by decide +kernel
theorem dX10_draw_13 : decode cX10_draw 13 = .ok (.ladd, 1) := by decide +kernel
theorem dX10_draw_14 : decode cX10_draw 14 = .ok (.ldc2_w 322, 3) := by decide +kernel
theorem dX10_draw_17 : decode cX10_draw 17 = .ok (.land, 1) := by decide +kernel
theorem dX10_draw_18 : decode cX10_draw 18 = .ok (.l2i, 1) := by decide +kernel
theorem dX10_draw_19 : decode cX10_draw 19 = .ok (.putfield 80, 3) := by decide +kernel
theorem dX10_draw_22 : decode cX10_draw 22 = .ok (.iload_n 1, 1) := by decide +kernel
theorem dX10_draw_23 : decode cX10_draw 23 = .ok (.ifCond .le 16, 3) := by decide +kernel
theorem dX10_draw_26 : decode cX10_draw 26 = .ok (.aload_n 0, 1) := by decide +kernel
theorem dX10_draw_27 : decode cX10_draw 27 = .ok (.getfield 80, 3) := by decide +kernel
theorem dX10_draw_30 : decode cX10_draw 30 = .ok (.ldc_w 324, 3) := by decide +kernel
theorem dX10_draw_33 : decode cX10_draw 33 = .ok (.idiv, 1) := by decide +kernel
theorem dX10_draw_34 : decode cX10_draw 34 = .ok (.iload_n 1, 1) := by decide +kernel
theorem dX10_draw_35 : decode cX10_draw 35 = .ok (.irem, 1) := by decide +kernel
theorem dX10_draw_36 : decode cX10_draw 36 = .ok (.goto 4, 3) := by decide +kernel
theorem dX10_draw_39 : decode cX10_draw 39 = .ok (.iconst 0, 1) := by decide +kernel
theorem dX10_draw_40 : decode cX10_draw 40 = .ok (.ireturn, 1) := by decide +kernel
set_option maxHeartbeats 4000000 in
set_option maxRecDepth 100000 in
theorem kX10_draw (l : Launch) (z : Nat) (D : va_G) (cA : Nat → ClassId) (a0 : Nat) (x1 : Int32) (M : Mem) (K : Int32 → Mem → Prop) (h : PX10_draw a0 x1 M K) : Met l yX10_draw (.code yX10_draw cX10_draw 2 (some .int) :: gtbl) ({ frames := 0, cells := 0, slots := 0, locals := 0 } : Room) (va_Pc [.ref a0, .int x1] (xB z D cA M)) (va_Qi K (xWd z D cA) (xA z)) 0 0 (xA z) := by
  refine x_met (by decide +kernel) (Nat.le_of_ble_eq_true rfl) (L0 := [(0, .ref a0), (1, .int x1)]) rfl ?_
  intro p e s m args below meth c E hr hlk hnm
  have E : xE RX10 cX10_draw 2 D cA p s m args c := E
  replace h := h.2
  refine x_aload_n E dX10_draw_0 rfl 0 rfl ?_
  refine x_aload_n E dX10_draw_1 rfl 0 rfl ?_
  obtain ⟨hT, v1, hv, h⟩ := h
  refine x_get E flX10_80 dX10_draw_2 hT hv ?_
  clear hT hv
  refine x_i2l E dX10_draw_5 ?_
  refine x_ldc2 (v := (LJ 1103515245)) E (gw 827 (by decide +kernel) rfl) dX10_draw_6 ?_
  refine x_lmul E dX10_draw_9 ?_
  refine x_ldc2 (v := (LJ 12345)) E (gw 828 (by decide +kernel) rfl) dX10_draw_10 ?_
  refine x_ladd E dX10_draw_13 ?_
  refine x_ldc2 (v := (LJ 2147483647)) E (gw 829 (by decide +kernel) rfl) dX10_draw_14 ?_
  refine x_land E dX10_draw_17 ?_
  refine x_l2i E dX10_draw_18 ?_
  obtain ⟨hT, h⟩ := h
  refine x_put E flX10_80 ⟨tyX10_ok, nmX10, rfl⟩ (by decide +kernel) rfl rfl dX10_draw_19 hT (fun M2 eM2 => ?_)
  replace h := h M2 eM2
  clear hT eM2
  refine x_iload_n E dX10_draw_22 rfl 1 rfl ?_
  refine x_if_le (tgt := 39) E dX10_draw_23 (by decide) (fun c3 => ?_) (fun c3 => ?_)
  · replace h := xbr_t h c3
    clear c3
    refine x_iconst (v := (J 0)) E dX10_draw_39 (by decide) ?_
    exact x_iret E hr hlk dX10_draw_40 h
  · replace h := xbr_f h c3
    clear c3
    refine x_aload_n E dX10_draw_26 rfl 0 rfl ?_
    obtain ⟨hT, v4, hv, h⟩ := h
    refine x_get E flX10_80 dX10_draw_27 hT hv ?_
    clear hT hv
    refine x_ldcw (v := (J 65536)) E (gw 830 (by decide +kernel) rfl) dX10_draw_30 ?_
    refine x_idiv E dX10_draw_33 (by decide) ?_
    refine x_iload_n E dX10_draw_34 rfl 1 rfl ?_
    obtain ⟨h0, h⟩ := h
    refine x_irem E dX10_draw_35 h0 ?_
    clear h0
    refine x_goto (tgt := 40) E dX10_draw_36 (by decide) ?_
    exact x_iret E hr hlk dX10_draw_40 h
theorem dX10_shelve_0 : decode cX10_shelve 0 = .ok (.aload_n 0, 1) := by decide +kernel
theorem dX10_shelve_1 : decode cX10_shelve 1 = .ok (.iload_n 1, 1) := by decide +kernel
theorem dX10_shelve_2 : decode cX10_shelve 2 = .ok (.invokevirtual 247, 3) := by decide +kernel
theorem dX10_shelve_5 : decode cX10_shelve 5 = .ok (.ifCond .ne 7, 3) := by decide +kernel
theorem dX10_shelve_8 : decode cX10_shelve 8 = .ok (.sipush (-1002), 3) := by decide +kernel
theorem dX10_shelve_11 : decode cX10_shelve 11 = .ok (.ireturn, 1) := by decide +kernel
theorem dX10_shelve_12 : decode cX10_shelve 12 = .ok (.aload_n 0, 1) := by decide +kernel
theorem dX10_shelve_13 : decode cX10_shelve 13 = .ok (.getfield 52, 3) := by decide +kernel
theorem dX10_shelve_16 : decode cX10_shelve 16 = .ok (.invokevirtual 276, 3) := by decide +kernel
theorem dX10_shelve_19 : decode cX10_shelve 19 = .ok (.ifCond .ne 7, 3) := by decide +kernel
theorem dX10_shelve_22 : decode cX10_shelve 22 = .ok (.sipush (-1003), 3) := by decide +kernel
theorem dX10_shelve_25 : decode cX10_shelve 25 = .ok (.ireturn, 1) := by decide +kernel
theorem dX10_shelve_26 : decode cX10_shelve 26 = .ok (.iconst 0, 1) := by decide +kernel
theorem dX10_shelve_27 : decode cX10_shelve 27 = .ok (.istore_n 2, 1) := by decide +kernel
theorem dX10_shelve_28 : decode cX10_shelve 28 = .ok (.iconst 0, 1) := by decide +kernel
theorem dX10_shelve_29 : decode cX10_shelve 29 = .ok (.istore_n 3, 1) := by decide +kernel
theorem dX10_shelve_30 : decode cX10_shelve 30 = .ok (.iload_n 3, 1) := by decide +kernel
theorem dX10_shelve_31 : decode cX10_shelve 31 = .ok (.bipush 24, 2) := by decide +kernel
theorem dX10_shelve_33 : decode cX10_shelve 33 = .ok (.if_icmp .ge 57, 3) := by decide +kernel
theorem dX10_shelve_36 : decode cX10_shelve 36 = .ok (.iload_n 1, 1) := by decide +kernel
theorem dX10_shelve_37 : decode cX10_shelve 37 = .ok (.iload_n 3, 1) := by decide +kernel
theorem dX10_shelve_38 : decode cX10_shelve 38 = .ok (.invokestatic 218, 3) := by decide +kernel
theorem dX10_shelve_41 : decode cX10_shelve 41 = .ok (.ifCond .eq 43, 3) := by decide +kernel
theorem dX10_shelve_44 : decode cX10_shelve 44 = .ok (.aload_n 0, 1) := by decide +kernel
theorem dX10_shelve_45 : decode cX10_shelve 45 = .ok (.getfield 35, 3) := by decide +kernel
theorem dX10_shelve_48 : decode cX10_shelve 48 = .ok (.iload_n 3, 1) := by decide +kernel
theorem dX10_shelve_49 : decode cX10_shelve 49 = .ok (.invokevirtual 136, 3) := by decide +kernel
theorem dX10_shelve_52 : decode cX10_shelve 52 = .ok (.ifCond .ne 32, 3) := by decide +kernel
theorem dX10_shelve_55 : decode cX10_shelve 55 = .ok (.aload_n 0, 1) := by decide +kernel
theorem dX10_shelve_56 : decode cX10_shelve 56 = .ok (.iload_n 3, 1) := by decide +kernel
theorem dX10_shelve_57 : decode cX10_shelve 57 = .ok (.aload_n 0, 1) := by decide +kernel
theorem dX10_shelve_58 : decode cX10_shelve 58 = .ok (.getfield 52, 3) := by decide +kernel
theorem dX10_shelve_61 : decode cX10_shelve 61 = .ok (.aload_n 0, 1) := by decide +kernel
theorem dX10_shelve_62 : decode cX10_shelve 62 = .ok (.aload_n 0, 1) := by decide +kernel
theorem dX10_shelve_63 : decode cX10_shelve 63 = .ok (.getfield 52, 3) := by decide +kernel
theorem dX10_shelve_66 : decode cX10_shelve 66 = .ok (.invokevirtual 276, 3) := by decide +kernel
theorem dX10_shelve_69 : decode cX10_shelve 69 = .ok (.invokevirtual 279, 3) := by decide +kernel
theorem dX10_shelve_72 : decode cX10_shelve 72 = .ok (.invokevirtual 282, 3) := by decide +kernel
theorem dX10_shelve_75 : decode cX10_shelve 75 = .ok (.invokevirtual 197, 3) := by decide +kernel
theorem dX10_shelve_78 : decode cX10_shelve 78 = .ok (.ifCond .eq 6, 3) := by decide +kernel
theorem dX10_shelve_81 : decode cX10_shelve 81 = .ok (.iinc 2 1, 3) := by decide +kernel
theorem dX10_shelve_84 : decode cX10_shelve 84 = .ok (.iinc 3 1, 3) := by decide +kernel
theorem dX10_shelve_87 : decode cX10_shelve 87 = .ok (.goto (-57), 3) := by decide +kernel
theorem dX10_shelve_90 : decode cX10_shelve 90 = .ok (.iload_n 2, 1) := by decide +kernel
theorem dX10_shelve_91 : decode cX10_shelve 91 = .ok (.ireturn, 1) := by decide +kernel
set_option maxHeartbeats 4000000 in
set_option maxRecDepth 100000 in
theorem kX10_shelve (l : Launch) (z : Nat) (D : va_G) (cA : Nat → ClassId) (a0 : Nat) (x1 : Int32) (M : Mem) (K : Int32 → Mem → Prop) (h : PX10_shelve a0 x1 M K) : Met l yX10_shelve (.code yX10_shelve cX10_shelve 4 (some .int) :: gtbl) ({ frames := 6, cells := 0, slots := 0, locals := 150 } : Room) (va_Pc [.ref a0, .int x1] (xB z D cA M)) (va_Qi K (xWd z D cA) (xA z)) 0 0 (xA z) := by
  refine x_met (by decide +kernel) (Nat.le_of_ble_eq_true rfl) (L0 := [(0, .ref a0), (1, .int x1)]) rfl ?_
  intro p e s m args below meth c E hr hlk hnm
  have E : xE RX10 cX10_shelve 4 D cA p s m args c := E
  replace h := h.2
  refine x_aload_n E dX10_shelve_0 rfl 0 rfl ?_
  refine x_iload_n E dX10_shelve_1 rfl 1 rfl ?_
  refine x_callVi (T := TX10) (N := 13) (t := 11) (As := [.int x1]) E mlX10_247 inX10_isSetOfBooks seX10_isSetOfBooks rfl ⟨by decide, by decide⟩ (tX10_isSetOfBooks h) (kX10_isSetOfBooks l z D cA a0 x1 M _ h) rfl ⟨rfl, rfl⟩ ⟨Nat.le_of_ble_eq_true rfl, Nat.le_of_ble_eq_true rfl⟩ ⟨(Nat.le_of_ble_eq_true rfl), (Nat.le_of_ble_eq_true rfl)⟩ (Nat.le_of_ble_eq_true rfl) rfl dX10_shelve_2 (x_pure (fun r1 h => ?_))
  refine x_if_ne (tgt := 12) E dX10_shelve_5 (by decide) (fun c3 => ?_) (fun c3 => ?_)
  · replace h := xbr_f h c3
    clear c3
    refine x_aload_n E dX10_shelve_12 rfl 0 rfl ?_
    obtain ⟨hT, q4, hv, h⟩ := h
    refine x_get E flX10_52 dX10_shelve_13 hT hv ?_
    clear hT hv
    refine x_callVi (T := TX3) (N := 1) (t := 4) (As := []) E mlX10_276 inX3_total seX3_total rfl ⟨by decide, by decide⟩ (tX3_total h) (kX3_total l z D cA q4 M _ h) rfl ⟨rfl, rfl⟩ ⟨Nat.le_of_ble_eq_true rfl, Nat.le_of_ble_eq_true rfl⟩ ⟨(Nat.le_of_ble_eq_true rfl), (Nat.le_of_ble_eq_true rfl)⟩ (Nat.le_of_ble_eq_true rfl) rfl dX10_shelve_16 (x_pure (fun r5 h => ?_))
    refine x_if_ne (tgt := 26) E dX10_shelve_19 (by decide) (fun c7 => ?_) (fun c7 => ?_)
    · replace h := xbr_f h c7
      clear c7
      refine x_iconst (v := (J 0)) E dX10_shelve_26 (by decide) ?_
      refine x_istore_n (L' := [(2, .int (J 0)), (0, .ref a0), (1, .int x1)]) E dX10_shelve_27 rfl (by decide) rfl ?_
      refine x_iconst (v := (J 0)) E dX10_shelve_28 (by decide) ?_
      refine x_istore_n (L' := [(3, .int (J 0)), (2, .int (J 0)), (0, .ref a0), (1, .int x1)]) E dX10_shelve_29 rfl (by decide) rfl ?_
      refine x_sub (L' := [(0, .ref a0), (1, .int x1), (2, .int (J 0)), (3, .int (J 0))]) [2, 3, 1, 0] rfl ?_
      refine lp_sound (T := fun sv => xG p l e ({ frames := 6, cells := 0, slots := 0, locals := 150 } : Room) s m args below meth c (MQ below (va_Qi K (xWd z D cA) (xA z)) args s 0 0 (xA z)) 4 z D cA sv.1 (0) (0) 30 [(0, .ref a0), (1, .int x1), (2, .int sv.2.1), (3, .int sv.2.2)] []) ?_ (M, (J 0), (J 0)) h
      clear h
      intro kc30 hk30 sv h
      obtain ⟨M, x2, x3⟩ := sv
      replace h : CX10_shelve_30 K a0 x1 kc30 M x2 x3 := h
      try dsimp only
      refine x_iload_n E dX10_shelve_30 rfl 3 rfl ?_
      refine x_bipush (v := (J 24)) E dX10_shelve_31 (by decide) ?_
      refine x_icmp_ge (tgt := 90) E dX10_shelve_33 (by decide) (fun c8 => ?_) (fun c8 => ?_)
      · replace h := xbr_t h c8
        clear c8
        refine x_iload_n E dX10_shelve_90 rfl 2 rfl ?_
        exact x_iret E hr hlk dX10_shelve_91 h
      · replace h := xbr_f h c8
        clear c8
        refine x_iload_n E dX10_shelve_36 rfl 1 rfl ?_
        refine x_iload_n E dX10_shelve_37 rfl 3 rfl ?_
        refine x_callSi (As := [.int x1, .int x3]) E mlX10_218 rfl stX10_isIn (kX10_isIn l z D cA x1 x3 M _ h) rfl ⟨rfl, rfl⟩ ⟨Nat.le_of_ble_eq_true rfl, Nat.le_of_ble_eq_true rfl⟩ ⟨(Nat.le_of_ble_eq_true rfl), (Nat.le_of_ble_eq_true rfl)⟩ (Nat.le_of_ble_eq_true rfl) rfl dX10_shelve_38 (x_pure (fun r9 h => ?_))
        refine x_if_eq (tgt := 84) E dX10_shelve_41 (by decide) (fun c11 => ?_) (fun c11 => ?_)
        · replace h := xbr_t h c11
          clear c11
          refine x_iinc (v := (x3 + (J 1))) (L' := [(3, .int (x3 + (J 1))), (0, .ref a0), (1, .int x1), (2, .int x2)]) E dX10_shelve_84 3 rfl rfl (by decide) rfl ?_
          refine x_goto (tgt := 30) E dX10_shelve_87 (by decide) ?_
          refine x_sub (L' := [(0, .ref a0), (1, .int x1), (2, .int x2), (3, .int (x3 + (J 1)))]) [1, 2, 3, 0] rfl ?_
          exact hk30 (M, x2, (x3 + (J 1))) h
        · replace h := xbr_f h c11
          clear c11
          refine x_aload_n E dX10_shelve_44 rfl 0 rfl ?_
          obtain ⟨hT, q12, hv, h⟩ := h
          refine x_get E flX10_35 dX10_shelve_45 hT hv ?_
          clear hT hv
          refine x_iload_n E dX10_shelve_48 rfl 3 rfl ?_
          refine x_callVi (T := TX6) (N := 3) (t := 7) (As := [.int x3]) E mlX10_136 inX6_stands seX6_stands rfl ⟨by decide, by decide⟩ (tX6_stands h) (kX6_stands l z D cA q12 x3 M _ h) rfl ⟨rfl, rfl⟩ ⟨Nat.le_of_ble_eq_true rfl, Nat.le_of_ble_eq_true rfl⟩ ⟨(Nat.le_of_ble_eq_true rfl), (Nat.le_of_ble_eq_true rfl)⟩ (Nat.le_of_ble_eq_true rfl) rfl dX10_shelve_49 (x_pure (fun r13 h => ?_))
          refine x_if_ne (tgt := 84) E dX10_shelve_52 (by decide) (fun c15 => ?_) (fun c15 => ?_)
          · replace h := xbr_f h c15
            clear c15
            refine x_iinc (v := (x3 + (J 1))) (L' := [(3, .int (x3 + (J 1))), (0, .ref a0), (1, .int x1), (2, .int x2)]) E dX10_shelve_84 3 rfl rfl (by decide) rfl ?_
            refine x_goto (tgt := 30) E dX10_shelve_87 (by decide) ?_
            refine x_sub (L' := [(0, .ref a0), (1, .int x1), (2, .int x2), (3, .int (x3 + (J 1)))]) [1, 2, 3, 0] rfl ?_
            exact hk30 (M, x2, (x3 + (J 1))) h
          · replace h := xbr_t h c15
            clear c15
            refine x_aload_n E dX10_shelve_55 rfl 0 rfl ?_
            refine x_iload_n E dX10_shelve_56 rfl 3 rfl ?_
            refine x_aload_n E dX10_shelve_57 rfl 0 rfl ?_
            obtain ⟨hT, q16, hv, h⟩ := h
            refine x_get E flX10_52 dX10_shelve_58 hT hv ?_
            clear hT hv
            refine x_aload_n E dX10_shelve_61 rfl 0 rfl ?_
            refine x_aload_n E dX10_shelve_62 rfl 0 rfl ?_
            obtain ⟨hT, q17, hv, h⟩ := h
            refine x_get E flX10_52 dX10_shelve_63 hT hv ?_
            clear hT hv
            refine x_callVi (T := TX3) (N := 1) (t := 4) (As := []) E mlX10_276 inX3_total seX3_total rfl ⟨by decide, by decide⟩ (tX3_total h) (kX3_total l z D cA q17 M _ h) rfl ⟨rfl, rfl⟩ ⟨Nat.le_of_ble_eq_true rfl, Nat.le_of_ble_eq_true rfl⟩ ⟨(Nat.le_of_ble_eq_true rfl), (Nat.le_of_ble_eq_true rfl)⟩ (Nat.le_of_ble_eq_true rfl) rfl dX10_shelve_66 (x_pure (fun r18 h => ?_))
            refine x_callVi (T := TX10) (N := 13) (t := 11) (As := [.int r18]) E mlX10_279 inX10_draw seX10_draw rfl ⟨by decide, by decide⟩ (tX10_draw h) (kX10_draw l z D cA a0 r18 M _ h) rfl ⟨rfl, rfl⟩ ⟨Nat.le_of_ble_eq_true rfl, Nat.le_of_ble_eq_true rfl⟩ ⟨(Nat.le_of_ble_eq_true rfl), (Nat.le_of_ble_eq_true rfl)⟩ (Nat.le_of_ble_eq_true rfl) rfl dX10_shelve_69 (fun r20 M21 h => ?_)
            refine x_callVi (T := TX3) (N := 1) (t := 4) (As := [.int r20]) E mlX10_282 inX3_readingOf seX3_readingOf rfl ⟨by decide, by decide⟩ (tX3_readingOf h) (kX3_readingOf l z D cA q16 r20 M21 _ h) rfl ⟨rfl, rfl⟩ ⟨Nat.le_of_ble_eq_true rfl, Nat.le_of_ble_eq_true rfl⟩ ⟨(Nat.le_of_ble_eq_true rfl), (Nat.le_of_ble_eq_true rfl)⟩ (Nat.le_of_ble_eq_true rfl) rfl dX10_shelve_72 (x_pure (fun r22 h => ?_))
            refine x_callVi (T := TX10) (N := 13) (t := 11) (As := [.int x3, .int r22]) E mlX10_197 inX10_putIfItGoes seX10_putIfItGoes rfl ⟨by decide, by decide⟩ (tX10_putIfItGoes h) (kX10_putIfItGoes l z D cA a0 x3 r22 M21 _ h) rfl ⟨rfl, rfl⟩ ⟨Nat.le_of_ble_eq_true rfl, Nat.le_of_ble_eq_true rfl⟩ ⟨(Nat.le_of_ble_eq_true rfl), (Nat.le_of_ble_eq_true rfl)⟩ (Nat.le_of_ble_eq_true rfl) rfl dX10_shelve_75 (fun r24 M25 h => ?_)
            refine x_if_eq (tgt := 84) E dX10_shelve_78 (by decide) (fun c26 => ?_) (fun c26 => ?_)
            · replace h := xbr_t h c26
              clear c26
              refine x_iinc (v := (x3 + (J 1))) (L' := [(3, .int (x3 + (J 1))), (0, .ref a0), (1, .int x1), (2, .int x2)]) E dX10_shelve_84 3 rfl rfl (by decide) rfl ?_
              refine x_goto (tgt := 30) E dX10_shelve_87 (by decide) ?_
              refine x_sub (L' := [(0, .ref a0), (1, .int x1), (2, .int x2), (3, .int (x3 + (J 1)))]) [1, 2, 3, 0] rfl ?_
              exact hk30 (M25, x2, (x3 + (J 1))) h
            · replace h := xbr_f h c26
              clear c26
              refine x_iinc (v := (x2 + (J 1))) (L' := [(2, .int (x2 + (J 1))), (0, .ref a0), (1, .int x1), (3, .int x3)]) E dX10_shelve_81 2 rfl rfl (by decide) rfl ?_
              refine x_iinc (v := (x3 + (J 1))) (L' := [(3, .int (x3 + (J 1))), (2, .int (x2 + (J 1))), (0, .ref a0), (1, .int x1)]) E dX10_shelve_84 3 rfl rfl (by decide) rfl ?_
              refine x_goto (tgt := 30) E dX10_shelve_87 (by decide) ?_
              refine x_sub (L' := [(0, .ref a0), (1, .int x1), (2, .int (x2 + (J 1))), (3, .int (x3 + (J 1)))]) [2, 3, 1, 0] rfl ?_
              exact hk30 (M25, (x2 + (J 1)), (x3 + (J 1))) h
    · replace h := xbr_t h c7
      clear c7
      refine x_sipush (v := (J (-1003))) E dX10_shelve_22 (by decide) ?_
      exact x_iret E hr hlk dX10_shelve_25 h
  · replace h := xbr_t h c3
    clear c3
    refine x_sipush (v := (J (-1002))) E dX10_shelve_8 (by decide) ?_
    exact x_iret E hr hlk dX10_shelve_11 h
theorem dX10_isImage_0 : decode cX10_isImage 0 = .ok (.iload_n 0, 1) := by decide +kernel
theorem dX10_isImage_1 : decode cX10_isImage 1 = .ok (.ifCond .lt 12, 3) := by decide +kernel
theorem dX10_isImage_4 : decode cX10_isImage 4 = .ok (.iload_n 0, 1) := by decide +kernel
theorem dX10_isImage_5 : decode cX10_isImage 5 = .ok (.iconst 2, 1) := by decide +kernel
theorem dX10_isImage_6 : decode cX10_isImage 6 = .ok (.if_icmp .ge 7, 3) := by decide +kernel
theorem dX10_isImage_9 : decode cX10_isImage 9 = .ok (.iconst 1, 1) := by decide +kernel
theorem dX10_isImage_10 : decode cX10_isImage 10 = .ok (.goto 4, 3) := by decide +kernel
theorem dX10_isImage_13 : decode cX10_isImage 13 = .ok (.iconst 0, 1) := by decide +kernel
theorem dX10_isImage_14 : decode cX10_isImage 14 = .ok (.ireturn, 1) := by decide +kernel
set_option maxHeartbeats 4000000 in
set_option maxRecDepth 100000 in
theorem kX10_isImage (l : Launch) (z : Nat) (D : va_G) (cA : Nat → ClassId) (x0 : Int32) (M : Mem) (K : Int32 → Prop) (h : PX10_isImage x0 M K) : Met l yX10_isImage (.code yX10_isImage cX10_isImage 1 (some .boolean) :: gtbl) ({ frames := 0, cells := 0, slots := 0, locals := 0 } : Room) (va_Pc [.int x0] (xB z D cA M)) (va_Qi (fun r M1 => M1 = M ∧ K r) (xWd z D cA) (xA z)) 0 0 (xA z) := by
  refine x_met (by decide +kernel) (Nat.le_of_ble_eq_true rfl) (L0 := [(0, .int x0)]) rfl ?_
  intro p e s m args below meth c E hr hlk hnm
  have E : xE RX10 cX10_isImage 1 D cA p s m args c := E
  refine x_iload_n E dX10_isImage_0 rfl 0 rfl ?_
  refine x_if_lt (tgt := 13) E dX10_isImage_1 (by decide) (fun c1 => ?_) (fun c1 => ?_)
  · replace h := xbr_t h c1
    clear c1
    refine x_iconst (v := (J 0)) E dX10_isImage_13 (by decide) ?_
    exact x_zret E hr hlk dX10_isImage_14 h.1 ⟨rfl, h.2⟩
  · replace h := xbr_f h c1
    clear c1
    refine x_iload_n E dX10_isImage_4 rfl 0 rfl ?_
    refine x_iconst (v := (J 2)) E dX10_isImage_5 (by decide) ?_
    refine x_icmp_ge (tgt := 13) E dX10_isImage_6 (by decide) (fun c2 => ?_) (fun c2 => ?_)
    · replace h := xbr_t h c2
      clear c2
      refine x_iconst (v := (J 0)) E dX10_isImage_13 (by decide) ?_
      exact x_zret E hr hlk dX10_isImage_14 h.1 ⟨rfl, h.2⟩
    · replace h := xbr_f h c2
      clear c2
      refine x_iconst (v := (J 1)) E dX10_isImage_9 (by decide) ?_
      refine x_goto (tgt := 14) E dX10_isImage_10 (by decide) ?_
      exact x_zret E hr hlk dX10_isImage_14 h.1 ⟨rfl, h.2⟩
theorem dX10_imageOf_0 : decode cX10_imageOf 0 = .ok (.iload_n 1, 1) := by decide +kernel
theorem dX10_imageOf_1 : decode cX10_imageOf 1 = .ok (.ifCond .ne 10, 3) := by decide +kernel
theorem dX10_imageOf_4 : decode cX10_imageOf 4 = .ok (.aload_n 0, 1) := by decide +kernel
theorem dX10_imageOf_5 : decode cX10_imageOf 5 = .ok (.getfield 66, 3) := by decide +kernel
theorem dX10_imageOf_8 : decode cX10_imageOf 8 = .ok (.goto 7, 3) := by decide +kernel
theorem dX10_imageOf_11 : decode cX10_imageOf 11 = .ok (.aload_n 0, 1) := by decide +kernel
theorem dX10_imageOf_12 : decode cX10_imageOf 12 = .ok (.getfield 70, 3) := by decide +kernel
theorem dX10_imageOf_15 : decode cX10_imageOf 15 = .ok (.areturn, 1) := by decide +kernel
set_option maxHeartbeats 4000000 in
set_option maxRecDepth 100000 in
theorem kX10_imageOf (l : Launch) (z : Nat) (D : va_G) (cA : Nat → ClassId) (a0 : Nat) (x1 : Int32) (M : Mem) (K : Nat → Prop) (h : PX10_imageOf a0 x1 M K) : Met l yX10_imageOf (.code yX10_imageOf cX10_imageOf 2 (some (.object "OutOfPlace$Image")) :: gtbl) ({ frames := 0, cells := 0, slots := 0, locals := 0 } : Room) (va_Pc [.ref a0, .int x1] (xB z D cA M)) (va_Qr (fun u : Nat × Mem => u.2 = M ∧ K u.1) (fun u a t => a = u.1 ∧ Wd z D cA u.2 t.heap) (xA z)) 0 0 (xA z) := by
  refine x_met (by decide +kernel) (Nat.le_of_ble_eq_true rfl) (L0 := [(0, .ref a0), (1, .int x1)]) rfl ?_
  intro p e s m args below meth c E hr hlk hnm
  have E : xE RX10 cX10_imageOf 2 D cA p s m args c := E
  replace h := h.2
  refine x_iload_n E dX10_imageOf_0 rfl 1 rfl ?_
  refine x_if_ne (tgt := 11) E dX10_imageOf_1 (by decide) (fun c1 => ?_) (fun c1 => ?_)
  · replace h := xbr_f h c1
    clear c1
    refine x_aload_n E dX10_imageOf_11 rfl 0 rfl ?_
    obtain ⟨hT, q2, hv, h⟩ := h
    refine x_get E flX10_70 dX10_imageOf_12 hT hv ?_
    clear hT hv
    exact x_aret (K := K) E hr hlk dX10_imageOf_15 h
  · replace h := xbr_t h c1
    clear c1
    refine x_aload_n E dX10_imageOf_4 rfl 0 rfl ?_
    obtain ⟨hT, q3, hv, h⟩ := h
    refine x_get E flX10_66 dX10_imageOf_5 hT hv ?_
    clear hT hv
    refine x_goto (tgt := 15) E dX10_imageOf_8 (by decide) ?_
    exact x_aret (K := K) E hr hlk dX10_imageOf_15 h
theorem dX10_keep_0 : decode cX10_keep 0 = .ok (.iload_n 1, 1) := by decide +kernel
theorem dX10_keep_1 : decode cX10_keep 1 = .ok (.invokestatic 284, 3) := by decide +kernel
theorem dX10_keep_4 : decode cX10_keep 4 = .ok (.ifCond .ne 7, 3) := by decide +kernel
theorem dX10_keep_7 : decode cX10_keep 7 = .ok (.sipush (-1001), 3) := by decide +kernel
theorem dX10_keep_10 : decode cX10_keep 10 = .ok (.ireturn, 1) := by decide +kernel
theorem dX10_keep_11 : decode cX10_keep 11 = .ok (.aload_n 0, 1) := by decide +kernel
theorem dX10_keep_12 : decode cX10_keep 12 = .ok (.iload_n 1, 1) := by decide +kernel
theorem dX10_keep_13 : decode cX10_keep 13 = .ok (.invokevirtual 287, 3) := by decide +kernel
theorem dX10_keep_16 : decode cX10_keep 16 = .ok (.aload_n 0, 1) := by decide +kernel
theorem dX10_keep_17 : decode cX10_keep 17 = .ok (.getfield 35, 3) := by decide +kernel
theorem dX10_keep_20 : decode cX10_keep 20 = .ok (.aload_n 0, 1) := by decide +kernel
theorem dX10_keep_21 : decode cX10_keep 21 = .ok (.getfield 77, 3) := by decide +kernel
theorem dX10_keep_24 : decode cX10_keep 24 = .ok (.aload_n 0, 1) := by decide +kernel
theorem dX10_keep_25 : decode cX10_keep 25 = .ok (.getfield 80, 3) := by decide +kernel
theorem dX10_keep_28 : decode cX10_keep 28 = .ok (.invokevirtual 291, 3) := by decide +kernel
theorem dX10_keep_31 : decode cX10_keep 31 = .ok (.iconst 1, 1) := by decide +kernel
theorem dX10_keep_32 : decode cX10_keep 32 = .ok (.ireturn, 1) := by decide +kernel
set_option maxHeartbeats 4000000 in
set_option maxRecDepth 100000 in
theorem kX10_keep (l : Launch) (z : Nat) (D : va_G) (cA : Nat → ClassId) (a0 : Nat) (x1 : Int32) (M : Mem) (K : Int32 → Mem → Prop) (h : PX10_keep a0 x1 M K) : Met l yX10_keep (.code yX10_keep cX10_keep 2 (some .int) :: gtbl) ({ frames := 3, cells := 0, slots := 0, locals := 67 } : Room) (va_Pc [.ref a0, .int x1] (xB z D cA M)) (va_Qi K (xWd z D cA) (xA z)) 0 0 (xA z) := by
  refine x_met (by decide +kernel) (Nat.le_of_ble_eq_true rfl) (L0 := [(0, .ref a0), (1, .int x1)]) rfl ?_
  intro p e s m args below meth c E hr hlk hnm
  have E : xE RX10 cX10_keep 2 D cA p s m args c := E
  replace h := h.2
  refine x_iload_n E dX10_keep_0 rfl 1 rfl ?_
  refine x_callSi (As := [.int x1]) E mlX10_284 rfl stX10_isImage (kX10_isImage l z D cA x1 M _ h) rfl ⟨rfl, rfl⟩ ⟨Nat.le_of_ble_eq_true rfl, Nat.le_of_ble_eq_true rfl⟩ ⟨(Nat.le_of_ble_eq_true rfl), (Nat.le_of_ble_eq_true rfl)⟩ (Nat.le_of_ble_eq_true rfl) rfl dX10_keep_1 (x_pure (fun r1 h => ?_))
  refine x_if_ne (tgt := 11) E dX10_keep_4 (by decide) (fun c3 => ?_) (fun c3 => ?_)
  · replace h := xbr_f h c3
    clear c3
    refine x_aload_n E dX10_keep_11 rfl 0 rfl ?_
    refine x_iload_n E dX10_keep_12 rfl 1 rfl ?_
    refine x_callVr (T := TX10) (N := 13) (t := 11) (As := [.int x1]) E mlX10_287 inX10_imageOf seX10_imageOf rfl ⟨by decide, by decide⟩ (tX10_imageOf h) (kX10_imageOf l z D cA a0 x1 M _ h) rfl ⟨rfl, rfl⟩ ⟨Nat.le_of_ble_eq_true rfl, Nat.le_of_ble_eq_true rfl⟩ ⟨(Nat.le_of_ble_eq_true rfl), (Nat.le_of_ble_eq_true rfl)⟩ (Nat.le_of_ble_eq_true rfl) rfl dX10_keep_13 (fun q4 h => ?_)
    refine x_aload_n E dX10_keep_16 rfl 0 rfl ?_
    obtain ⟨hT, q6, hv, h⟩ := h
    refine x_get E flX10_35 dX10_keep_17 hT hv ?_
    clear hT hv
    refine x_aload_n E dX10_keep_20 rfl 0 rfl ?_
    obtain ⟨hT, v7, hv, h⟩ := h
    refine x_get E flX10_77 dX10_keep_21 hT hv ?_
    clear hT hv
    refine x_aload_n E dX10_keep_24 rfl 0 rfl ?_
    obtain ⟨hT, v8, hv, h⟩ := h
    refine x_get E flX10_80 dX10_keep_25 hT hv ?_
    clear hT hv
    refine x_callVv (T := TX4) (N := 4) (t := 5) (As := [.ref q6, .int v7, .int v8]) E mlX10_291 inX4_store seX4_store rfl ⟨by decide, by decide⟩ (tX4_store h) (kX4_store l z D cA q4 q6 v7 v8 M _ h) rfl ⟨rfl, rfl⟩ ⟨Nat.le_of_ble_eq_true rfl, Nat.le_of_ble_eq_true rfl⟩ ⟨(Nat.le_of_ble_eq_true rfl), (Nat.le_of_ble_eq_true rfl)⟩ (Nat.le_of_ble_eq_true rfl) rfl dX10_keep_28 (fun M10 h => ?_)
    refine x_iconst (v := (J 1)) E dX10_keep_31 (by decide) ?_
    exact x_iret E hr hlk dX10_keep_32 h
  · replace h := xbr_t h c3
    clear c3
    refine x_sipush (v := (J (-1001))) E dX10_keep_7 (by decide) ?_
    exact x_iret E hr hlk dX10_keep_10 h
theorem dX10_goBack_0 : decode cX10_goBack 0 = .ok (.iload_n 1, 1) := by decide +kernel
theorem dX10_goBack_1 : decode cX10_goBack 1 = .ok (.invokestatic 284, 3) := by decide +kernel
theorem dX10_goBack_4 : decode cX10_goBack 4 = .ok (.ifCond .ne 7, 3) := by decide +kernel
theorem dX10_goBack_7 : decode cX10_goBack 7 = .ok (.sipush (-1001), 3) := by decide +kernel
theorem dX10_goBack_10 : decode cX10_goBack 10 = .ok (.ireturn, 1) := by decide +kernel
theorem dX10_goBack_11 : decode cX10_goBack 11 = .ok (.aload_n 0, 1) := by decide +kernel
theorem dX10_goBack_12 : decode cX10_goBack 12 = .ok (.iload_n 1, 1) := by decide +kernel
theorem dX10_goBack_13 : decode cX10_goBack 13 = .ok (.invokevirtual 287, 3) := by decide +kernel
theorem dX10_goBack_16 : decode cX10_goBack 16 = .ok (.astore_n 2, 1) := by decide +kernel
theorem dX10_goBack_17 : decode cX10_goBack 17 = .ok (.aload_n 2, 1) := by decide +kernel
theorem dX10_goBack_18 : decode cX10_goBack 18 = .ok (.getfield 295, 3) := by decide +kernel
theorem dX10_goBack_21 : decode cX10_goBack 21 = .ok (.ifCond .eq 21, 3) := by decide +kernel
theorem dX10_goBack_24 : decode cX10_goBack 24 = .ok (.aload_n 0, 1) := by decide +kernel
theorem dX10_goBack_25 : decode cX10_goBack 25 = .ok (.getfield 28, 3) := by decide +kernel
theorem dX10_goBack_28 : decode cX10_goBack 28 = .ok (.aload_n 2, 1) := by decide +kernel
theorem dX10_goBack_29 : decode cX10_goBack 29 = .ok (.getfield 299, 3) := by decide +kernel
theorem dX10_goBack_32 : decode cX10_goBack 32 = .ok (.aload_n 0, 1) := by decide +kernel
theorem dX10_goBack_33 : decode cX10_goBack 33 = .ok (.getfield 21, 3) := by decide +kernel
theorem dX10_goBack_36 : decode cX10_goBack 36 = .ok (.invokevirtual 300, 3) := by decide +kernel
theorem dX10_goBack_39 : decode cX10_goBack 39 = .ok (.ifCond .ne 7, 3) := by decide +kernel
theorem dX10_goBack_42 : decode cX10_goBack 42 = .ok (.sipush (-1003), 3) := by decide +kernel
theorem dX10_goBack_45 : decode cX10_goBack 45 = .ok (.ireturn, 1) := by decide +kernel
theorem dX10_goBack_46 : decode cX10_goBack 46 = .ok (.aload_n 0, 1) := by decide +kernel
theorem dX10_goBack_47 : decode cX10_goBack 47 = .ok (.getfield 35, 3) := by decide +kernel
theorem dX10_goBack_50 : decode cX10_goBack 50 = .ok (.aload_n 2, 1) := by decide +kernel
theorem dX10_goBack_51 : decode cX10_goBack 51 = .ok (.getfield 299, 3) := by decide +kernel
theorem dX10_goBack_54 : decode cX10_goBack 54 = .ok (.invokevirtual 214, 3) := by decide +kernel
theorem dX10_goBack_57 : decode cX10_goBack 57 = .ok (.aload_n 0, 1) := by decide +kernel
theorem dX10_goBack_58 : decode cX10_goBack 58 = .ok (.aload_n 2, 1) := by decide +kernel
theorem dX10_goBack_59 : decode cX10_goBack 59 = .ok (.getfield 304, 3) := by decide +kernel
theorem dX10_goBack_62 : decode cX10_goBack 62 = .ok (.putfield 77, 3) := by decide +kernel
theorem dX10_goBack_65 : decode cX10_goBack 65 = .ok (.aload_n 0, 1) := by decide +kernel
theorem dX10_goBack_66 : decode cX10_goBack 66 = .ok (.aload_n 2, 1) := by decide +kernel
theorem dX10_goBack_67 : decode cX10_goBack 67 = .ok (.getfield 307, 3) := by decide +kernel
theorem dX10_goBack_70 : decode cX10_goBack 70 = .ok (.putfield 80, 3) := by decide +kernel
theorem dX10_goBack_73 : decode cX10_goBack 73 = .ok (.iconst 1, 1) := by decide +kernel
theorem dX10_goBack_74 : decode cX10_goBack 74 = .ok (.ireturn, 1) := by decide +kernel
set_option maxHeartbeats 4000000 in
set_option maxRecDepth 100000 in
theorem kX10_goBack (l : Launch) (z : Nat) (D : va_G) (cA : Nat → ClassId) (a0 : Nat) (x1 : Int32) (M : Mem) (K : Int32 → Mem → Prop) (h : PX10_goBack a0 x1 M K) : Met l yX10_goBack (.code yX10_goBack cX10_goBack 3 (some .int) :: gtbl) ({ frames := 3, cells := 0, slots := 0, locals := 70 } : Room) (va_Pc [.ref a0, .int x1] (xB z D cA M)) (va_Qi K (xWd z D cA) (xA z)) 0 0 (xA z) := by
  refine x_met (by decide +kernel) (Nat.le_of_ble_eq_true rfl) (L0 := [(0, .ref a0), (1, .int x1)]) rfl ?_
  intro p e s m args below meth c E hr hlk hnm
  have E : xE RX10 cX10_goBack 3 D cA p s m args c := E
  replace h := h.2
  refine x_iload_n E dX10_goBack_0 rfl 1 rfl ?_
  refine x_callSi (As := [.int x1]) E mlX10_284 rfl stX10_isImage (kX10_isImage l z D cA x1 M _ h) rfl ⟨rfl, rfl⟩ ⟨Nat.le_of_ble_eq_true rfl, Nat.le_of_ble_eq_true rfl⟩ ⟨(Nat.le_of_ble_eq_true rfl), (Nat.le_of_ble_eq_true rfl)⟩ (Nat.le_of_ble_eq_true rfl) rfl dX10_goBack_1 (x_pure (fun r1 h => ?_))
  refine x_if_ne (tgt := 11) E dX10_goBack_4 (by decide) (fun c3 => ?_) (fun c3 => ?_)
  · replace h := xbr_f h c3
    clear c3
    refine x_aload_n E dX10_goBack_11 rfl 0 rfl ?_
    refine x_iload_n E dX10_goBack_12 rfl 1 rfl ?_
    refine x_callVr (T := TX10) (N := 13) (t := 11) (As := [.int x1]) E mlX10_287 inX10_imageOf seX10_imageOf rfl ⟨by decide, by decide⟩ (tX10_imageOf h) (kX10_imageOf l z D cA a0 x1 M _ h) rfl ⟨rfl, rfl⟩ ⟨Nat.le_of_ble_eq_true rfl, Nat.le_of_ble_eq_true rfl⟩ ⟨(Nat.le_of_ble_eq_true rfl), (Nat.le_of_ble_eq_true rfl)⟩ (Nat.le_of_ble_eq_true rfl) rfl dX10_goBack_13 (fun q4 h => ?_)
    refine x_astore_n (L' := [(2, .ref q4), (0, .ref a0), (1, .int x1)]) E dX10_goBack_16 rfl (by decide) rfl ?_
    refine x_aload_n E dX10_goBack_17 rfl 0 rfl ?_
    obtain ⟨hT, v6, hv, h⟩ := h
    refine x_get E flX10_295 dX10_goBack_18 hT hv ?_
    clear hT hv
    refine x_if_eq (tgt := 42) E dX10_goBack_21 (by decide) (fun c7 => ?_) (fun c7 => ?_)
    · replace h := xbr_t h c7
      clear c7
      refine x_sipush (v := (J (-1003))) E dX10_goBack_42 (by decide) ?_
      exact x_iret E hr hlk dX10_goBack_45 h
    · replace h := xbr_f h c7
      clear c7
      refine x_aload_n E dX10_goBack_24 rfl 1 rfl ?_
      obtain ⟨hT, q8, hv, h⟩ := h
      refine x_get E flX10_28 dX10_goBack_25 hT hv ?_
      clear hT hv
      refine x_aload_n E dX10_goBack_28 rfl 0 rfl ?_
      obtain ⟨hT, q9, hv, h⟩ := h
      refine x_get E flX10_299 dX10_goBack_29 hT hv ?_
      clear hT hv
      refine x_aload_n E dX10_goBack_32 rfl 1 rfl ?_
      obtain ⟨hT, q10, hv, h⟩ := h
      refine x_get E flX10_21 dX10_goBack_33 hT hv ?_
      clear hT hv
      refine x_callVi (T := TX8) (N := 1) (t := 9) (As := [.ref q9, .ref q10]) E mlX10_300 inX8_hold seX8_hold rfl ⟨by decide, by decide⟩ (tX8_hold h) (kX8_hold l z D cA q8 q9 q10 M _ h) rfl ⟨rfl, rfl⟩ ⟨Nat.le_of_ble_eq_true rfl, Nat.le_of_ble_eq_true rfl⟩ ⟨(Nat.le_of_ble_eq_true rfl), (Nat.le_of_ble_eq_true rfl)⟩ (Nat.le_of_ble_eq_true rfl) rfl dX10_goBack_36 (x_pure (fun r11 h => ?_))
      refine x_if_ne (tgt := 46) E dX10_goBack_39 (by decide) (fun c13 => ?_) (fun c13 => ?_)
      · replace h := xbr_f h c13
        clear c13
        refine x_aload_n E dX10_goBack_46 rfl 1 rfl ?_
        obtain ⟨hT, q14, hv, h⟩ := h
        refine x_get E flX10_35 dX10_goBack_47 hT hv ?_
        clear hT hv
        refine x_aload_n E dX10_goBack_50 rfl 0 rfl ?_
        obtain ⟨hT, q15, hv, h⟩ := h
        refine x_get E flX10_299 dX10_goBack_51 hT hv ?_
        clear hT hv
        refine x_callVv (T := TX6) (N := 3) (t := 7) (As := [.ref q15]) E mlX10_214 inX6_copyFrom seX6_copyFrom rfl ⟨by decide, by decide⟩ (tX6_copyFrom h) (kX6_copyFrom l z D cA q14 q15 M _ h) rfl ⟨rfl, rfl⟩ ⟨Nat.le_of_ble_eq_true rfl, Nat.le_of_ble_eq_true rfl⟩ ⟨(Nat.le_of_ble_eq_true rfl), (Nat.le_of_ble_eq_true rfl)⟩ (Nat.le_of_ble_eq_true rfl) rfl dX10_goBack_54 (fun M17 h => ?_)
        refine x_aload_n E dX10_goBack_57 rfl 1 rfl ?_
        refine x_aload_n E dX10_goBack_58 rfl 0 rfl ?_
        obtain ⟨hT, v18, hv, h⟩ := h
        refine x_get E flX10_304 dX10_goBack_59 hT hv ?_
        clear hT hv
        obtain ⟨hT, h⟩ := h
        refine x_put E flX10_77 ⟨tyX10_ok, nmX10, rfl⟩ (by decide +kernel) rfl rfl dX10_goBack_62 hT (fun M19 eM19 => ?_)
        replace h := h M19 eM19
        clear hT eM19
        refine x_aload_n E dX10_goBack_65 rfl 1 rfl ?_
        refine x_aload_n E dX10_goBack_66 rfl 0 rfl ?_
        obtain ⟨hT, v20, hv, h⟩ := h
        refine x_get E flX10_307 dX10_goBack_67 hT hv ?_
        clear hT hv
        obtain ⟨hT, h⟩ := h
        refine x_put E flX10_80 ⟨tyX10_ok, nmX10, rfl⟩ (by decide +kernel) rfl rfl dX10_goBack_70 hT (fun M21 eM21 => ?_)
        replace h := h M21 eM21
        clear hT eM21
        refine x_iconst (v := (J 1)) E dX10_goBack_73 (by decide) ?_
        exact x_iret E hr hlk dX10_goBack_74 h
      · replace h := xbr_t h c13
        clear c13
        refine x_sipush (v := (J (-1003))) E dX10_goBack_42 (by decide) ?_
        exact x_iret E hr hlk dX10_goBack_45 h
  · replace h := xbr_t h c3
    clear c3
    refine x_sipush (v := (J (-1001))) E dX10_goBack_7 (by decide) ?_
    exact x_iret E hr hlk dX10_goBack_10 h
theorem dX11_init_0 : decode cX11_init 0 = .ok (.aload_n 0, 1) := by decide +kernel
theorem dX11_init_1 : decode cX11_init 1 = .ok (.invokespecial 1, 3) := by decide +kernel
theorem dX11_init_4 : decode cX11_init 4 = .ok (.aload_n 0, 1) := by decide +kernel
theorem dX11_init_5 : decode cX11_init 5 = .ok (.sipush 384, 3) := by decide +kernel
theorem dX11_init_8 : decode cX11_init 8 = .ok (.newarray .int, 2) := by decide +kernel
theorem dX11_init_10 : decode cX11_init 10 = .ok (.putfield 7, 3) := by decide +kernel
theorem dX11_init_13 : decode cX11_init 13 = .ok (.aload_n 0, 1) := by decide +kernel
theorem dX11_init_14 : decode cX11_init 14 = .ok (.bipush 24, 2) := by decide +kernel
theorem dX11_init_16 : decode cX11_init 16 = .ok (.newarray .int, 2) := by decide +kernel
theorem dX11_init_18 : decode cX11_init 18 = .ok (.putfield 13, 3) := by decide +kernel
theorem dX11_init_21 : decode cX11_init 21 = .ok (.aload_n 0, 1) := by decide +kernel
theorem dX11_init_22 : decode cX11_init 22 = .ok (.bipush 24, 2) := by decide +kernel
theorem dX11_init_24 : decode cX11_init 24 = .ok (.newarray .int, 2) := by decide +kernel
theorem dX11_init_26 : decode cX11_init 26 = .ok (.putfield 16, 3) := by decide +kernel
theorem dX11_init_29 : decode cX11_init 29 = .ok (.aload_n 0, 1) := by decide +kernel
theorem dX11_init_30 : decode cX11_init 30 = .ok (.bipush 24, 2) := by decide +kernel
theorem dX11_init_32 : decode cX11_init 32 = .ok (.newarray .int, 2) := by decide +kernel
theorem dX11_init_34 : decode cX11_init 34 = .ok (.putfield 19, 3) := by decide +kernel
theorem dX11_init_37 : decode cX11_init 37 = .ok (.aload_n 0, 1) := by decide +kernel
theorem dX11_init_38 : decode cX11_init 38 = .ok (.bipush 24, 2) := by decide +kernel
theorem dX11_init_40 : decode cX11_init 40 = .ok (.newarray .int, 2) := by decide +kernel
theorem dX11_init_42 : decode cX11_init 42 = .ok (.putfield 22, 3) := by decide +kernel
theorem dX11_init_45 : decode cX11_init 45 = .ok (.aload_n 0, 1) := by decide +kernel
theorem dX11_init_46 : decode cX11_init 46 = .ok (.bipush 8, 2) := by decide +kernel
theorem dX11_init_48 : decode cX11_init 48 = .ok (.newarray .int, 2) := by decide +kernel
theorem dX11_init_50 : decode cX11_init 50 = .ok (.putfield 25, 3) := by decide +kernel
theorem dX11_init_53 : decode cX11_init 53 = .ok (.aload_n 0, 1) := by decide +kernel
theorem dX11_init_54 : decode cX11_init 54 = .ok (.bipush 25, 2) := by decide +kernel
theorem dX11_init_56 : decode cX11_init 56 = .ok (.newarray .int, 2) := by decide +kernel
theorem dX11_init_58 : decode cX11_init 58 = .ok (.putfield 28, 3) := by decide +kernel
theorem dX11_init_61 : decode cX11_init 61 = .ok (.aload_n 0, 1) := by decide +kernel
theorem dX11_init_62 : decode cX11_init 62 = .ok (.bipush 8, 2) := by decide +kernel
theorem dX11_init_64 : decode cX11_init 64 = .ok (.newarray .int, 2) := by decide +kernel
theorem dX11_init_66 : decode cX11_init 66 = .ok (.putfield 31, 3) := by decide +kernel
theorem dX11_init_69 : decode cX11_init 69 = .ok (.aload_n 0, 1) := by decide +kernel
theorem dX11_init_70 : decode cX11_init 70 = .ok (.iconst 5, 1) := by decide +kernel
theorem dX11_init_71 : decode cX11_init 71 = .ok (.newarray .int, 2) := by decide +kernel
theorem dX11_init_73 : decode cX11_init 73 = .ok (.putfield 34, 3) := by decide +kernel
theorem dX11_init_76 : decode cX11_init 76 = .ok (.aload_n 0, 1) := by decide +kernel
theorem dX11_init_77 : decode cX11_init 77 = .ok (.sipush 600, 3) := by decide +kernel
theorem dX11_init_80 : decode cX11_init 80 = .ok (.newarray .int, 2) := by decide +kernel
theorem dX11_init_82 : decode cX11_init 82 = .ok (.putfield 37, 3) := by decide +kernel
theorem dX11_init_85 : decode cX11_init 85 = .ok (.aload_n 0, 1) := by decide +kernel
theorem dX11_init_86 : decode cX11_init 86 = .ok (.iconst (-1), 1) := by decide +kernel
theorem dX11_init_87 : decode cX11_init 87 = .ok (.putfield 40, 3) := by decide +kernel
theorem dX11_init_90 : decode cX11_init 90 = .ok (.aload_n 0, 1) := by decide +kernel
theorem dX11_init_91 : decode cX11_init 91 = .ok (.bipush 24, 2) := by decide +kernel
theorem dX11_init_93 : decode cX11_init 93 = .ok (.newarray .int, 2) := by decide +kernel
theorem dX11_init_95 : decode cX11_init 95 = .ok (.putfield 44, 3) := by decide +kernel
theorem dX11_init_98 : decode cX11_init 98 = .ok (.aload_n 0, 1) := by decide +kernel
theorem dX11_init_99 : decode cX11_init 99 = .ok (.bipush 25, 2) := by decide +kernel
theorem dX11_init_101 : decode cX11_init 101 = .ok (.newarray .int, 2) := by decide +kernel
theorem dX11_init_103 : decode cX11_init 103 = .ok (.putfield 47, 3) := by decide +kernel
theorem dX11_init_106 : decode cX11_init 106 = .ok (.aload_n 0, 1) := by decide +kernel
theorem dX11_init_107 : decode cX11_init 107 = .ok (.bipush 8, 2) := by decide +kernel
theorem dX11_init_109 : decode cX11_init 109 = .ok (.newarray .int, 2) := by decide +kernel
theorem dX11_init_111 : decode cX11_init 111 = .ok (.putfield 50, 3) := by decide +kernel
theorem dX11_init_114 : decode cX11_init 114 = .ok (.aload_n 0, 1) := by decide +kernel
theorem dX11_init_115 : decode cX11_init 115 = .ok (.sipush 650, 3) := by decide +kernel
theorem dX11_init_118 : decode cX11_init 118 = .ok (.newarray .int, 2) := by decide +kernel
theorem dX11_init_120 : decode cX11_init 120 = .ok (.putfield 53, 3) := by decide +kernel
theorem dX11_init_123 : decode cX11_init 123 = .ok (.aload_n 0, 1) := by decide +kernel
theorem dX11_init_124 : decode cX11_init 124 = .ok (.bipush 24, 2) := by decide +kernel
theorem dX11_init_126 : decode cX11_init 126 = .ok (.newarray .int, 2) := by decide +kernel
theorem dX11_init_128 : decode cX11_init 128 = .ok (.putfield 56, 3) := by decide +kernel
theorem dX11_init_131 : decode cX11_init 131 = .ok (.aload_n 0, 1) := by decide +kernel
theorem dX11_init_132 : decode cX11_init 132 = .ok (.iconst 5, 1) := by decide +kernel
theorem dX11_init_133 : decode cX11_init 133 = .ok (.newarray .int, 2) := by decide +kernel
theorem dX11_init_135 : decode cX11_init 135 = .ok (.putfield 59, 3) := by decide +kernel
theorem dX11_init_138 : decode cX11_init 138 = .ok (.aload_n 0, 1) := by decide +kernel
theorem dX11_init_139 : decode cX11_init 139 = .ok (.iconst 5, 1) := by decide +kernel
theorem dX11_init_140 : decode cX11_init 140 = .ok (.newarray .int, 2) := by decide +kernel
theorem dX11_init_142 : decode cX11_init 142 = .ok (.putfield 62, 3) := by decide +kernel
theorem dX11_init_145 : decode cX11_init 145 = .ok (.aload_n 0, 1) := by decide +kernel
theorem dX11_init_146 : decode cX11_init 146 = .ok (.bipush 8, 2) := by decide +kernel
theorem dX11_init_148 : decode cX11_init 148 = .ok (.newarray .int, 2) := by decide +kernel
theorem dX11_init_150 : decode cX11_init 150 = .ok (.putfield 65, 3) := by decide +kernel
theorem dX11_init_153 : decode cX11_init 153 = .ok (.aload_n 0, 1) := by decide +kernel
theorem dX11_init_154 : decode cX11_init 154 = .ok (.bipush 80, 2) := by decide +kernel
theorem dX11_init_156 : decode cX11_init 156 = .ok (.newarray .int, 2) := by decide +kernel
theorem dX11_init_158 : decode cX11_init 158 = .ok (.putfield 68, 3) := by decide +kernel
theorem dX11_init_161 : decode cX11_init 161 = .ok (.aload_n 0, 1) := by decide +kernel
theorem dX11_init_162 : decode cX11_init 162 = .ok (.iconst 2, 1) := by decide +kernel
theorem dX11_init_163 : decode cX11_init 163 = .ok (.newarray .boolean, 2) := by decide +kernel
theorem dX11_init_165 : decode cX11_init 165 = .ok (.putfield 71, 3) := by decide +kernel
theorem dX11_init_168 : decode cX11_init 168 = .ok (.iconst 0, 1) := by decide +kernel
theorem dX11_init_169 : decode cX11_init 169 = .ok (.istore_n 1, 1) := by decide +kernel
theorem dX11_init_170 : decode cX11_init 170 = .ok (.iload_n 1, 1) := by decide +kernel
theorem dX11_init_171 : decode cX11_init 171 = .ok (.bipush 8, 2) := by decide +kernel
theorem dX11_init_173 : decode cX11_init 173 = .ok (.if_icmp .ge 17, 3) := by decide +kernel
theorem dX11_init_176 : decode cX11_init 176 = .ok (.aload_n 0, 1) := by decide +kernel
theorem dX11_init_177 : decode cX11_init 177 = .ok (.getfield 25, 3) := by decide +kernel
theorem dX11_init_180 : decode cX11_init 180 = .ok (.iload_n 1, 1) := by decide +kernel
theorem dX11_init_181 : decode cX11_init 181 = .ok (.bipush 30, 2) := by decide +kernel
theorem dX11_init_183 : decode cX11_init 183 = .ok (.iastore, 1) := by decide +kernel
theorem dX11_init_184 : decode cX11_init 184 = .ok (.iinc 1 1, 3) := by decide +kernel
theorem dX11_init_187 : decode cX11_init 187 = .ok (.goto (-17), 3) := by decide +kernel
theorem dX11_init_190 : decode cX11_init 190 = .ok (.iconst 0, 1) := by decide +kernel
theorem dX11_init_191 : decode cX11_init 191 = .ok (.istore_n 1, 1) := by decide +kernel
theorem dX11_init_192 : decode cX11_init 192 = .ok (.iload_n 1, 1) := by decide +kernel
theorem dX11_init_193 : decode cX11_init 193 = .ok (.iconst 5, 1) := by decide +kernel
theorem dX11_init_194 : decode cX11_init 194 = .ok (.if_icmp .ge 26, 3) := by decide +kernel
theorem dX11_init_197 : decode cX11_init 197 = .ok (.aload_n 0, 1) := by decide +kernel
theorem dX11_init_198 : decode cX11_init 198 = .ok (.getfield 34, 3) := by decide +kernel
theorem dX11_init_201 : decode cX11_init 201 = .ok (.iload_n 1, 1) := by decide +kernel
theorem dX11_init_202 : decode cX11_init 202 = .ok (.iload_n 1, 1) := by decide +kernel
theorem dX11_init_203 : decode cX11_init 203 = .ok (.ifCond .ne 8, 3) := by decide +kernel
theorem dX11_init_206 : decode cX11_init 206 = .ok (.bipush 60, 2) := by decide +kernel
theorem dX11_init_208 : decode cX11_init 208 = .ok (.goto 5, 3) := by decide +kernel
theorem dX11_init_211 : decode cX11_init 211 = .ok (.bipush 10, 2) := by decide +kernel
theorem dX11_init_213 : decode cX11_init 213 = .ok (.iastore, 1) := by decide +kernel
theorem dX11_init_214 : decode cX11_init 214 = .ok (.iinc 1 1, 3) := by decide +kernel
theorem dX11_init_217 : decode cX11_init 217 = .ok (.goto (-25), 3) := by decide +kernel
theorem dX11_init_220 : decode cX11_init 220 = .ok (.return_, 1) := by decide +kernel
set_option maxHeartbeats 4000000 in
set_option maxRecDepth 100000 in
theorem kX11_init (l : Launch) (z : Nat) (D : va_G) (cA : Nat → ClassId) (a0 : Nat) (M : Mem) (K : Mem → Prop) (h : PX11_init a0 M K) : Met l yX11_init (.code yX11_init cX11_init 2 none :: gtbl) ({ frames := 1, cells := 20, slots := 13000, locals := 20 } : Room) (va_Pc [.ref a0] (xB z D cA M)) (va_Qv K (xWd z D cA) (xA z)) 20 13000 (xA z) := by
  refine x_met (by decide +kernel) (Nat.le_of_ble_eq_true rfl) (L0 := [(0, .ref a0)]) rfl ?_
  intro p e s m args below meth c E hr hlk hnm
  have E : xE RX11 cX11_init 2 D cA p s m args c := E
  replace h := h.2
  refine x_aload_n E dX11_init_0 rfl 0 rfl ?_
  refine x_objInit E (gw 864 (by decide +kernel) rfl) (gw 21 (by decide +kernel) rfl) (gw 22 (by decide +kernel) rfl) dX11_init_1 (Nat.le_of_ble_eq_true rfl) (Nat.le_of_ble_eq_true rfl) ?_
  refine x_aload_n E dX11_init_4 rfl 0 rfl ?_
  refine x_sipush (v := (J 384)) E dX11_init_5 (by decide) ?_
  obtain ⟨hi, hN, h⟩ := h
  refine x_newa (q := 0) (N := 384) E (ty := .int) rfl rfl (fun _ h => by cases h) (gw 39 (by decide +kernel) rfl) hi hN (Nat.le_of_ble_eq_true rfl) (Nat.le_of_ble_eq_true rfl) (Nat.le_of_ble_eq_true rfl) dX11_init_8 (fun q1 M2 eq1 eM2 => ?_)
  replace h := h q1 M2 eq1 eM2
  clear eq1 eM2 hi hN
  obtain ⟨hT, h⟩ := h
  refine x_putF E flX11_7 (gw 866 (by decide +kernel) rfl) ⟨tyX11_ok, nmX11, rfl⟩ rfl hnm (by decide +kernel) rfl rfl dX11_init_10 hT (fun M3 eM3 => ?_)
  replace h := h M3 eM3
  clear hT eM3
  refine x_aload_n E dX11_init_13 rfl 0 rfl ?_
  refine x_bipush (v := (J 24)) E dX11_init_14 (by decide) ?_
  obtain ⟨hi, hN, h⟩ := h
  refine x_newa (q := 0) (N := 24) E (ty := .int) rfl rfl (fun _ h => by cases h) (gw 39 (by decide +kernel) rfl) hi hN (Nat.le_of_ble_eq_true rfl) (Nat.le_of_ble_eq_true rfl) (Nat.le_of_ble_eq_true rfl) dX11_init_16 (fun q4 M5 eq4 eM5 => ?_)
  replace h := h q4 M5 eq4 eM5
  clear eq4 eM5 hi hN
  obtain ⟨hT, h⟩ := h
  refine x_putF E flX11_13 (gw 867 (by decide +kernel) rfl) ⟨tyX11_ok, nmX11, rfl⟩ rfl hnm (by decide +kernel) rfl rfl dX11_init_18 hT (fun M6 eM6 => ?_)
  replace h := h M6 eM6
  clear hT eM6
  refine x_aload_n E dX11_init_21 rfl 0 rfl ?_
  refine x_bipush (v := (J 24)) E dX11_init_22 (by decide) ?_
  obtain ⟨hi, hN, h⟩ := h
  refine x_newa (q := 0) (N := 24) E (ty := .int) rfl rfl (fun _ h => by cases h) (gw 39 (by decide +kernel) rfl) hi hN (Nat.le_of_ble_eq_true rfl) (Nat.le_of_ble_eq_true rfl) (Nat.le_of_ble_eq_true rfl) dX11_init_24 (fun q7 M8 eq7 eM8 => ?_)
  replace h := h q7 M8 eq7 eM8
  clear eq7 eM8 hi hN
  obtain ⟨hT, h⟩ := h
  refine x_putF E flX11_16 (gw 868 (by decide +kernel) rfl) ⟨tyX11_ok, nmX11, rfl⟩ rfl hnm (by decide +kernel) rfl rfl dX11_init_26 hT (fun M9 eM9 => ?_)
  replace h := h M9 eM9
  clear hT eM9
  refine x_aload_n E dX11_init_29 rfl 0 rfl ?_
  refine x_bipush (v := (J 24)) E dX11_init_30 (by decide) ?_
  obtain ⟨hi, hN, h⟩ := h
  refine x_newa (q := 0) (N := 24) E (ty := .int) rfl rfl (fun _ h => by cases h) (gw 39 (by decide +kernel) rfl) hi hN (Nat.le_of_ble_eq_true rfl) (Nat.le_of_ble_eq_true rfl) (Nat.le_of_ble_eq_true rfl) dX11_init_32 (fun q10 M11 eq10 eM11 => ?_)
  replace h := h q10 M11 eq10 eM11
  clear eq10 eM11 hi hN
  obtain ⟨hT, h⟩ := h
  refine x_putF E flX11_19 (gw 869 (by decide +kernel) rfl) ⟨tyX11_ok, nmX11, rfl⟩ rfl hnm (by decide +kernel) rfl rfl dX11_init_34 hT (fun M12 eM12 => ?_)
  replace h := h M12 eM12
  clear hT eM12
  refine x_aload_n E dX11_init_37 rfl 0 rfl ?_
  refine x_bipush (v := (J 24)) E dX11_init_38 (by decide) ?_
  obtain ⟨hi, hN, h⟩ := h
  refine x_newa (q := 0) (N := 24) E (ty := .int) rfl rfl (fun _ h => by cases h) (gw 39 (by decide +kernel) rfl) hi hN (Nat.le_of_ble_eq_true rfl) (Nat.le_of_ble_eq_true rfl) (Nat.le_of_ble_eq_true rfl) dX11_init_40 (fun q13 M14 eq13 eM14 => ?_)
  replace h := h q13 M14 eq13 eM14
  clear eq13 eM14 hi hN
  obtain ⟨hT, h⟩ := h
  refine x_putF E flX11_22 (gw 870 (by decide +kernel) rfl) ⟨tyX11_ok, nmX11, rfl⟩ rfl hnm (by decide +kernel) rfl rfl dX11_init_42 hT (fun M15 eM15 => ?_)
  replace h := h M15 eM15
  clear hT eM15
  refine x_aload_n E dX11_init_45 rfl 0 rfl ?_
  refine x_bipush (v := (J 8)) E dX11_init_46 (by decide) ?_
  obtain ⟨hi, hN, h⟩ := h
  refine x_newa (q := 0) (N := 8) E (ty := .int) rfl rfl (fun _ h => by cases h) (gw 39 (by decide +kernel) rfl) hi hN (Nat.le_of_ble_eq_true rfl) (Nat.le_of_ble_eq_true rfl) (Nat.le_of_ble_eq_true rfl) dX11_init_48 (fun q16 M17 eq16 eM17 => ?_)
  replace h := h q16 M17 eq16 eM17
  clear eq16 eM17 hi hN
  obtain ⟨hT, h⟩ := h
  refine x_putF E flX11_25 (gw 871 (by decide +kernel) rfl) ⟨tyX11_ok, nmX11, rfl⟩ rfl hnm (by decide +kernel) rfl rfl dX11_init_50 hT (fun M18 eM18 => ?_)
  replace h := h M18 eM18
  clear hT eM18
  refine x_aload_n E dX11_init_53 rfl 0 rfl ?_
  refine x_bipush (v := (J 25)) E dX11_init_54 (by decide) ?_
  obtain ⟨hi, hN, h⟩ := h
  refine x_newa (q := 0) (N := 25) E (ty := .int) rfl rfl (fun _ h => by cases h) (gw 39 (by decide +kernel) rfl) hi hN (Nat.le_of_ble_eq_true rfl) (Nat.le_of_ble_eq_true rfl) (Nat.le_of_ble_eq_true rfl) dX11_init_56 (fun q19 M20 eq19 eM20 => ?_)
  replace h := h q19 M20 eq19 eM20
  clear eq19 eM20 hi hN
  obtain ⟨hT, h⟩ := h
  refine x_putF E flX11_28 (gw 873 (by decide +kernel) rfl) ⟨tyX11_ok, nmX11, rfl⟩ rfl hnm (by decide +kernel) rfl rfl dX11_init_58 hT (fun M21 eM21 => ?_)
  replace h := h M21 eM21
  clear hT eM21
  refine x_aload_n E dX11_init_61 rfl 0 rfl ?_
  refine x_bipush (v := (J 8)) E dX11_init_62 (by decide) ?_
  obtain ⟨hi, hN, h⟩ := h
  refine x_newa (q := 0) (N := 8) E (ty := .int) rfl rfl (fun _ h => by cases h) (gw 39 (by decide +kernel) rfl) hi hN (Nat.le_of_ble_eq_true rfl) (Nat.le_of_ble_eq_true rfl) (Nat.le_of_ble_eq_true rfl) dX11_init_64 (fun q22 M23 eq22 eM23 => ?_)
  replace h := h q22 M23 eq22 eM23
  clear eq22 eM23 hi hN
  obtain ⟨hT, h⟩ := h
  refine x_putF E flX11_31 (gw 874 (by decide +kernel) rfl) ⟨tyX11_ok, nmX11, rfl⟩ rfl hnm (by decide +kernel) rfl rfl dX11_init_66 hT (fun M24 eM24 => ?_)
  replace h := h M24 eM24
  clear hT eM24
  refine x_aload_n E dX11_init_69 rfl 0 rfl ?_
  refine x_iconst (v := (J 5)) E dX11_init_70 (by decide) ?_
  obtain ⟨hi, hN, h⟩ := h
  refine x_newa (q := 0) (N := 5) E (ty := .int) rfl rfl (fun _ h => by cases h) (gw 39 (by decide +kernel) rfl) hi hN (Nat.le_of_ble_eq_true rfl) (Nat.le_of_ble_eq_true rfl) (Nat.le_of_ble_eq_true rfl) dX11_init_71 (fun q25 M26 eq25 eM26 => ?_)
  replace h := h q25 M26 eq25 eM26
  clear eq25 eM26 hi hN
  obtain ⟨hT, h⟩ := h
  refine x_putF E flX11_34 (gw 876 (by decide +kernel) rfl) ⟨tyX11_ok, nmX11, rfl⟩ rfl hnm (by decide +kernel) rfl rfl dX11_init_73 hT (fun M27 eM27 => ?_)
  replace h := h M27 eM27
  clear hT eM27
  refine x_aload_n E dX11_init_76 rfl 0 rfl ?_
  refine x_sipush (v := (J 600)) E dX11_init_77 (by decide) ?_
  obtain ⟨hi, hN, h⟩ := h
  refine x_newa (q := 0) (N := 600) E (ty := .int) rfl rfl (fun _ h => by cases h) (gw 39 (by decide +kernel) rfl) hi hN (Nat.le_of_ble_eq_true rfl) (Nat.le_of_ble_eq_true rfl) (Nat.le_of_ble_eq_true rfl) dX11_init_80 (fun q28 M29 eq28 eM29 => ?_)
  replace h := h q28 M29 eq28 eM29
  clear eq28 eM29 hi hN
  obtain ⟨hT, h⟩ := h
  refine x_putF E flX11_37 (gw 877 (by decide +kernel) rfl) ⟨tyX11_ok, nmX11, rfl⟩ rfl hnm (by decide +kernel) rfl rfl dX11_init_82 hT (fun M30 eM30 => ?_)
  replace h := h M30 eM30
  clear hT eM30
  refine x_aload_n E dX11_init_85 rfl 0 rfl ?_
  refine x_iconst (v := (J (-1))) E dX11_init_86 (by decide) ?_
  obtain ⟨hT, h⟩ := h
  refine x_put E flX11_40 ⟨tyX11_ok, nmX11, rfl⟩ (by decide +kernel) rfl rfl dX11_init_87 hT (fun M31 eM31 => ?_)
  replace h := h M31 eM31
  clear hT eM31
  refine x_aload_n E dX11_init_90 rfl 0 rfl ?_
  refine x_bipush (v := (J 24)) E dX11_init_91 (by decide) ?_
  obtain ⟨hi, hN, h⟩ := h
  refine x_newa (q := 0) (N := 24) E (ty := .int) rfl rfl (fun _ h => by cases h) (gw 39 (by decide +kernel) rfl) hi hN (Nat.le_of_ble_eq_true rfl) (Nat.le_of_ble_eq_true rfl) (Nat.le_of_ble_eq_true rfl) dX11_init_93 (fun q32 M33 eq32 eM33 => ?_)
  replace h := h q32 M33 eq32 eM33
  clear eq32 eM33 hi hN
  obtain ⟨hT, h⟩ := h
  refine x_putF E flX11_44 (gw 883 (by decide +kernel) rfl) ⟨tyX11_ok, nmX11, rfl⟩ rfl hnm (by decide +kernel) rfl rfl dX11_init_95 hT (fun M34 eM34 => ?_)
  replace h := h M34 eM34
  clear hT eM34
  refine x_aload_n E dX11_init_98 rfl 0 rfl ?_
  refine x_bipush (v := (J 25)) E dX11_init_99 (by decide) ?_
  obtain ⟨hi, hN, h⟩ := h
  refine x_newa (q := 0) (N := 25) E (ty := .int) rfl rfl (fun _ h => by cases h) (gw 39 (by decide +kernel) rfl) hi hN (Nat.le_of_ble_eq_true rfl) (Nat.le_of_ble_eq_true rfl) (Nat.le_of_ble_eq_true rfl) dX11_init_101 (fun q35 M36 eq35 eM36 => ?_)
  replace h := h q35 M36 eq35 eM36
  clear eq35 eM36 hi hN
  obtain ⟨hT, h⟩ := h
  refine x_putF E flX11_47 (gw 886 (by decide +kernel) rfl) ⟨tyX11_ok, nmX11, rfl⟩ rfl hnm (by decide +kernel) rfl rfl dX11_init_103 hT (fun M37 eM37 => ?_)
  replace h := h M37 eM37
  clear hT eM37
  refine x_aload_n E dX11_init_106 rfl 0 rfl ?_
  refine x_bipush (v := (J 8)) E dX11_init_107 (by decide) ?_
  obtain ⟨hi, hN, h⟩ := h
  refine x_newa (q := 0) (N := 8) E (ty := .int) rfl rfl (fun _ h => by cases h) (gw 39 (by decide +kernel) rfl) hi hN (Nat.le_of_ble_eq_true rfl) (Nat.le_of_ble_eq_true rfl) (Nat.le_of_ble_eq_true rfl) dX11_init_109 (fun q38 M39 eq38 eM39 => ?_)
  replace h := h q38 M39 eq38 eM39
  clear eq38 eM39 hi hN
  obtain ⟨hT, h⟩ := h
  refine x_putF E flX11_50 (gw 887 (by decide +kernel) rfl) ⟨tyX11_ok, nmX11, rfl⟩ rfl hnm (by decide +kernel) rfl rfl dX11_init_111 hT (fun M40 eM40 => ?_)
  replace h := h M40 eM40
  clear hT eM40
  refine x_aload_n E dX11_init_114 rfl 0 rfl ?_
  refine x_sipush (v := (J 650)) E dX11_init_115 (by decide) ?_
  obtain ⟨hi, hN, h⟩ := h
  refine x_newa (q := 0) (N := 650) E (ty := .int) rfl rfl (fun _ h => by cases h) (gw 39 (by decide +kernel) rfl) hi hN (Nat.le_of_ble_eq_true rfl) (Nat.le_of_ble_eq_true rfl) (Nat.le_of_ble_eq_true rfl) dX11_init_118 (fun q41 M42 eq41 eM42 => ?_)
  replace h := h q41 M42 eq41 eM42
  clear eq41 eM42 hi hN
  obtain ⟨hT, h⟩ := h
  refine x_putF E flX11_53 (gw 888 (by decide +kernel) rfl) ⟨tyX11_ok, nmX11, rfl⟩ rfl hnm (by decide +kernel) rfl rfl dX11_init_120 hT (fun M43 eM43 => ?_)
  replace h := h M43 eM43
  clear hT eM43
  refine x_aload_n E dX11_init_123 rfl 0 rfl ?_
  refine x_bipush (v := (J 24)) E dX11_init_124 (by decide) ?_
  obtain ⟨hi, hN, h⟩ := h
  refine x_newa (q := 0) (N := 24) E (ty := .int) rfl rfl (fun _ h => by cases h) (gw 39 (by decide +kernel) rfl) hi hN (Nat.le_of_ble_eq_true rfl) (Nat.le_of_ble_eq_true rfl) (Nat.le_of_ble_eq_true rfl) dX11_init_126 (fun q44 M45 eq44 eM45 => ?_)
  replace h := h q44 M45 eq44 eM45
  clear eq44 eM45 hi hN
  obtain ⟨hT, h⟩ := h
  refine x_putF E flX11_56 (gw 889 (by decide +kernel) rfl) ⟨tyX11_ok, nmX11, rfl⟩ rfl hnm (by decide +kernel) rfl rfl dX11_init_128 hT (fun M46 eM46 => ?_)
  replace h := h M46 eM46
  clear hT eM46
  refine x_aload_n E dX11_init_131 rfl 0 rfl ?_
  refine x_iconst (v := (J 5)) E dX11_init_132 (by decide) ?_
  obtain ⟨hi, hN, h⟩ := h
  refine x_newa (q := 0) (N := 5) E (ty := .int) rfl rfl (fun _ h => by cases h) (gw 39 (by decide +kernel) rfl) hi hN (Nat.le_of_ble_eq_true rfl) (Nat.le_of_ble_eq_true rfl) (Nat.le_of_ble_eq_true rfl) dX11_init_133 (fun q47 M48 eq47 eM48 => ?_)
  replace h := h q47 M48 eq47 eM48
  clear eq47 eM48 hi hN
  obtain ⟨hT, h⟩ := h
  refine x_putF E flX11_59 (gw 891 (by decide +kernel) rfl) ⟨tyX11_ok, nmX11, rfl⟩ rfl hnm (by decide +kernel) rfl rfl dX11_init_135 hT (fun M49 eM49 => ?_)
  replace h := h M49 eM49
  clear hT eM49
  refine x_aload_n E dX11_init_138 rfl 0 rfl ?_
  refine x_iconst (v := (J 5)) E dX11_init_139 (by decide) ?_
  obtain ⟨hi, hN, h⟩ := h
  refine x_newa (q := 0) (N := 5) E (ty := .int) rfl rfl (fun _ h => by cases h) (gw 39 (by decide +kernel) rfl) hi hN (Nat.le_of_ble_eq_true rfl) (Nat.le_of_ble_eq_true rfl) (Nat.le_of_ble_eq_true rfl) dX11_init_140 (fun q50 M51 eq50 eM51 => ?_)
  replace h := h q50 M51 eq50 eM51
  clear eq50 eM51 hi hN
  obtain ⟨hT, h⟩ := h
  refine x_putF E flX11_62 (gw 892 (by decide +kernel) rfl) ⟨tyX11_ok, nmX11, rfl⟩ rfl hnm (by decide +kernel) rfl rfl dX11_init_142 hT (fun M52 eM52 => ?_)
  replace h := h M52 eM52
  clear hT eM52
  refine x_aload_n E dX11_init_145 rfl 0 rfl ?_
  refine x_bipush (v := (J 8)) E dX11_init_146 (by decide) ?_
  obtain ⟨hi, hN, h⟩ := h
  refine x_newa (q := 0) (N := 8) E (ty := .int) rfl rfl (fun _ h => by cases h) (gw 39 (by decide +kernel) rfl) hi hN (Nat.le_of_ble_eq_true rfl) (Nat.le_of_ble_eq_true rfl) (Nat.le_of_ble_eq_true rfl) dX11_init_148 (fun q53 M54 eq53 eM54 => ?_)
  replace h := h q53 M54 eq53 eM54
  clear eq53 eM54 hi hN
  obtain ⟨hT, h⟩ := h
  refine x_putF E flX11_65 (gw 893 (by decide +kernel) rfl) ⟨tyX11_ok, nmX11, rfl⟩ rfl hnm (by decide +kernel) rfl rfl dX11_init_150 hT (fun M55 eM55 => ?_)
  replace h := h M55 eM55
  clear hT eM55
  refine x_aload_n E dX11_init_153 rfl 0 rfl ?_
  refine x_bipush (v := (J 80)) E dX11_init_154 (by decide) ?_
  obtain ⟨hi, hN, h⟩ := h
  refine x_newa (q := 0) (N := 80) E (ty := .int) rfl rfl (fun _ h => by cases h) (gw 39 (by decide +kernel) rfl) hi hN (Nat.le_of_ble_eq_true rfl) (Nat.le_of_ble_eq_true rfl) (Nat.le_of_ble_eq_true rfl) dX11_init_156 (fun q56 M57 eq56 eM57 => ?_)
  replace h := h q56 M57 eq56 eM57
  clear eq56 eM57 hi hN
  obtain ⟨hT, h⟩ := h
  refine x_putF E flX11_68 (gw 895 (by decide +kernel) rfl) ⟨tyX11_ok, nmX11, rfl⟩ rfl hnm (by decide +kernel) rfl rfl dX11_init_158 hT (fun M58 eM58 => ?_)
  replace h := h M58 eM58
  clear hT eM58
  refine x_aload_n E dX11_init_161 rfl 0 rfl ?_
  refine x_iconst (v := (J 2)) E dX11_init_162 (by decide) ?_
  obtain ⟨hi, hN, h⟩ := h
  refine x_newa (q := 1) (N := 2) E (ty := .boolean) rfl rfl (fun _ h => by cases h) (gw 962 (by decide +kernel) rfl) hi hN (Nat.le_of_ble_eq_true rfl) (Nat.le_of_ble_eq_true rfl) (Nat.le_of_ble_eq_true rfl) dX11_init_163 (fun q59 M60 eq59 eM60 => ?_)
  replace h := h q59 M60 eq59 eM60
  clear eq59 eM60 hi hN
  obtain ⟨hT, h⟩ := h
  refine x_putF E flX11_71 (gw 896 (by decide +kernel) rfl) ⟨tyX11_ok, nmX11, rfl⟩ rfl hnm (by decide +kernel) rfl rfl dX11_init_165 hT (fun M61 eM61 => ?_)
  replace h := h M61 eM61
  clear hT eM61
  refine x_iconst (v := (J 0)) E dX11_init_168 (by decide) ?_
  refine x_istore_n (L' := [(1, .int (J 0)), (0, .ref a0)]) E dX11_init_169 rfl (by decide) rfl ?_
  refine x_sub (L' := [(0, .ref a0), (1, .int (J 0))]) [1, 0] rfl ?_
  refine lp_sound (T := fun sv => xG p l e ({ frames := 1, cells := 20, slots := 13000, locals := 20 } : Room) s m args below meth c (MQ below (va_Qv K (xWd z D cA) (xA z)) args s 20 13000 (xA z)) 2 z D cA sv.1 (0 + 1 + 1 + 1 + 1 + 1 + 1 + 1 + 1 + 1 + 1 + 1 + 1 + 1 + 1 + 1 + 1 + 1 + 1 + 1 + 1) (0 + 384 + 24 + 24 + 24 + 24 + 8 + 25 + 8 + 5 + 600 + 24 + 25 + 8 + 650 + 24 + 5 + 5 + 8 + 80 + 2) 170 [(0, .ref a0), (1, .int sv.2)] []) ?_ (M61, (J 0)) h
  clear h
  intro kc170 hk170 sv h
  obtain ⟨M, x1⟩ := sv
  replace h : CX11_init_170 K a0 kc170 M x1 := h
  try dsimp only
  refine x_iload_n E dX11_init_170 rfl 1 rfl ?_
  refine x_bipush (v := (J 8)) E dX11_init_171 (by decide) ?_
  refine x_icmp_ge (tgt := 190) E dX11_init_173 (by decide) (fun c62 => ?_) (fun c62 => ?_)
  · replace h := xbr_t h c62
    clear c62
    refine x_iconst (v := (J 0)) E dX11_init_190 (by decide) ?_
    refine x_istore_n (L' := [(1, .int (J 0)), (0, .ref a0)]) E dX11_init_191 rfl (by decide) rfl ?_
    refine x_sub (L' := [(0, .ref a0), (1, .int (J 0))]) [1, 0] rfl ?_
    refine lp_sound (T := fun sv => xG p l e ({ frames := 1, cells := 20, slots := 13000, locals := 20 } : Room) s m args below meth c (MQ below (va_Qv K (xWd z D cA) (xA z)) args s 20 13000 (xA z)) 2 z D cA sv.1 (0 + 1 + 1 + 1 + 1 + 1 + 1 + 1 + 1 + 1 + 1 + 1 + 1 + 1 + 1 + 1 + 1 + 1 + 1 + 1 + 1) (0 + 384 + 24 + 24 + 24 + 24 + 8 + 25 + 8 + 5 + 600 + 24 + 25 + 8 + 650 + 24 + 5 + 5 + 8 + 80 + 2) 192 [(0, .ref a0), (1, .int sv.2)] []) ?_ (M, (J 0)) h
    clear h
    intro kc192 hk192 sv h
    obtain ⟨M, x1⟩ := sv
    replace h : CX11_init_192 K a0 kc192 M x1 := h
    try dsimp only
    refine x_iload_n E dX11_init_192 rfl 1 rfl ?_
    refine x_iconst (v := (J 5)) E dX11_init_193 (by decide) ?_
    refine x_icmp_ge (tgt := 220) E dX11_init_194 (by decide) (fun c63 => ?_) (fun c63 => ?_)
    · replace h := xbr_t h c63
      clear c63
      refine x_widen (k' := 20) (n' := 13000) (Nat.le_of_ble_eq_true rfl) (Nat.le_of_ble_eq_true rfl) ?_
      exact x_vret E hr hlk dX11_init_220 h
    · replace h := xbr_f h c63
      clear c63
      refine x_aload_n E dX11_init_197 rfl 0 rfl ?_
      obtain ⟨hT, q64, hv, h⟩ := h
      refine x_get E flX11_34 dX11_init_198 hT hv ?_
      clear hT hv
      refine x_iload_n E dX11_init_201 rfl 1 rfl ?_
      refine x_iload_n E dX11_init_202 rfl 1 rfl ?_
      refine x_if_ne (tgt := 211) E dX11_init_203 (by decide) (fun c65 => ?_) (fun c65 => ?_)
      · replace h := xbr_f h c65
        clear c65
        refine x_bipush (v := (J 10)) E dX11_init_211 (by decide) ?_
        obtain ⟨hT, hi, h⟩ := h
        refine x_iast E dX11_init_213 hT hi (fun M66 eM66 => ?_)
        replace h := h M66 eM66
        clear hT hi eM66
        refine x_iinc (v := (x1 + (J 1))) (L' := [(1, .int (x1 + (J 1))), (0, .ref a0)]) E dX11_init_214 1 rfl rfl (by decide) rfl ?_
        refine x_goto (tgt := 192) E dX11_init_217 (by decide) ?_
        refine x_sub (L' := [(0, .ref a0), (1, .int (x1 + (J 1)))]) [1, 0] rfl ?_
        exact hk192 (M66, (x1 + (J 1))) h
      · replace h := xbr_t h c65
        clear c65
        refine x_bipush (v := (J 60)) E dX11_init_206 (by decide) ?_
        refine x_goto (tgt := 213) E dX11_init_208 (by decide) ?_
        obtain ⟨hT, hi, h⟩ := h
        refine x_iast E dX11_init_213 hT hi (fun M67 eM67 => ?_)
        replace h := h M67 eM67
        clear hT hi eM67
        refine x_iinc (v := (x1 + (J 1))) (L' := [(1, .int (x1 + (J 1))), (0, .ref a0)]) E dX11_init_214 1 rfl rfl (by decide) rfl ?_
        refine x_goto (tgt := 192) E dX11_init_217 (by decide) ?_
        refine x_sub (L' := [(0, .ref a0), (1, .int (x1 + (J 1)))]) [1, 0] rfl ?_
        exact hk192 (M67, (x1 + (J 1))) h
  · replace h := xbr_f h c62
    clear c62
    refine x_aload_n E dX11_init_176 rfl 0 rfl ?_
    obtain ⟨hT, q68, hv, h⟩ := h
    refine x_get E flX11_25 dX11_init_177 hT hv ?_
    clear hT hv
    refine x_iload_n E dX11_init_180 rfl 1 rfl ?_
    refine x_bipush (v := (J 30)) E dX11_init_181 (by decide) ?_
    obtain ⟨hT, hi, h⟩ := h
    refine x_iast E dX11_init_183 hT hi (fun M69 eM69 => ?_)
    replace h := h M69 eM69
    clear hT hi eM69
    refine x_iinc (v := (x1 + (J 1))) (L' := [(1, .int (x1 + (J 1))), (0, .ref a0)]) E dX11_init_184 1 rfl rfl (by decide) rfl ?_
    refine x_goto (tgt := 170) E dX11_init_187 (by decide) ?_
    refine x_sub (L' := [(0, .ref a0), (1, .int (x1 + (J 1)))]) [1, 0] rfl ?_
    exact hk170 (M69, (x1 + (J 1))) h
theorem dX11_in_0 : decode cX11_in 0 = .ok (.lload_n 0, 1) := by decide +kernel
theorem dX11_in_1 : decode cX11_in 1 = .ok (.lload_n 2, 1) := by decide +kernel
theorem dX11_in_2 : decode cX11_in 2 = .ok (.lcmp, 1) := by decide +kernel
theorem dX11_in_3 : decode cX11_in 3 = .ok (.ifCond .lt 14, 3) := by decide +kernel
theorem dX11_in_6 : decode cX11_in 6 = .ok (.lload_n 0, 1) := by decide +kernel
theorem dX11_in_7 : decode cX11_in 7 = .ok (.lload 4, 2) := by decide +kernel
theorem dX11_in_9 : decode cX11_in 9 = .ok (.lcmp, 1) := by decide +kernel
theorem dX11_in_10 : decode cX11_in 10 = .ok (.ifCond .gt 7, 3) := by decide +kernel
theorem dX11_in_13 : decode cX11_in 13 = .ok (.iconst 1, 1) := by decide +kernel
theorem dX11_in_14 : decode cX11_in 14 = .ok (.goto 4, 3) := by decide +kernel
theorem dX11_in_17 : decode cX11_in 17 = .ok (.iconst 0, 1) := by decide +kernel
theorem dX11_in_18 : decode cX11_in 18 = .ok (.ireturn, 1) := by decide +kernel
set_option maxHeartbeats 4000000 in
set_option maxRecDepth 100000 in
theorem kX11_in (l : Launch) (z : Nat) (D : va_G) (cA : Nat → ClassId) (x0 : Int64) (x2 : Int64) (x4 : Int64) (M : Mem) (K : Int32 → Prop) (h : PX11_in x0 x2 x4 M K) : Met l yX11_in (.code yX11_in cX11_in 6 (some .boolean) :: gtbl) ({ frames := 0, cells := 0, slots := 0, locals := 0 } : Room) (va_Pc [.long x0, .long x2, .long x4] (xB z D cA M)) (va_Qi (fun r M1 => M1 = M ∧ K r) (xWd z D cA) (xA z)) 0 0 (xA z) := by
  refine x_met (by decide +kernel) (Nat.le_of_ble_eq_true rfl) (L0 := [(0, .long x0), (2, .long x2), (4, .long x4)]) rfl ?_
  intro p e s m args below meth c E hr hlk hnm
  have E : xE RX11 cX11_in 6 D cA p s m args c := E
  refine x_lload_n E dX11_in_0 rfl 0 rfl ?_
  refine x_lload_n E dX11_in_1 rfl 1 rfl ?_
  refine x_lcmp E dX11_in_2 ?_
  refine x_if_lt (tgt := 17) E dX11_in_3 (by decide) (fun c1 => ?_) (fun c1 => ?_)
  · replace h := xbr_t h c1
    clear c1
    refine x_iconst (v := (J 0)) E dX11_in_17 (by decide) ?_
    exact x_zret E hr hlk dX11_in_18 h.1 ⟨rfl, h.2⟩
  · replace h := xbr_f h c1
    clear c1
    refine x_lload_n E dX11_in_6 rfl 0 rfl ?_
    refine x_lload E dX11_in_7 2 rfl ?_
    refine x_lcmp E dX11_in_9 ?_
    refine x_if_gt (tgt := 17) E dX11_in_10 (by decide) (fun c2 => ?_) (fun c2 => ?_)
    · replace h := xbr_t h c2
      clear c2
      refine x_iconst (v := (J 0)) E dX11_in_17 (by decide) ?_
      exact x_zret E hr hlk dX11_in_18 h.1 ⟨rfl, h.2⟩
    · replace h := xbr_f h c2
      clear c2
      refine x_iconst (v := (J 1)) E dX11_in_13 (by decide) ?_
      refine x_goto (tgt := 18) E dX11_in_14 (by decide) ?_
      exact x_zret E hr hlk dX11_in_18 h.1 ⟨rfl, h.2⟩
theorem dX11_has_0 : decode cX11_has 0 = .ok (.iload_n 0, 1) := by decide +kernel
theorem dX11_has_1 : decode cX11_has 1 = .ok (.iload_n 1, 1) := by decide +kernel
theorem dX11_has_2 : decode cX11_has 2 = .ok (.ishr, 1) := by decide +kernel
theorem dX11_has_3 : decode cX11_has 3 = .ok (.iconst 1, 1) := by decide +kernel
theorem dX11_has_4 : decode cX11_has 4 = .ok (.iand, 1) := by decide +kernel
theorem dX11_has_5 : decode cX11_has 5 = .ok (.iconst 1, 1) := by decide +kernel
theorem dX11_has_6 : decode cX11_has 6 = .ok (.if_icmp .ne 7, 3) := by decide +kernel
theorem dX11_has_9 : decode cX11_has 9 = .ok (.iconst 1, 1) := by decide +kernel
theorem dX11_has_10 : decode cX11_has 10 = .ok (.goto 4, 3) := by decide +kernel
theorem dX11_has_13 : decode cX11_has 13 = .ok (.iconst 0, 1) := by decide +kernel
theorem dX11_has_14 : decode cX11_has 14 = .ok (.ireturn, 1) := by decide +kernel
set_option maxHeartbeats 4000000 in
set_option maxRecDepth 100000 in
theorem kX11_has (l : Launch) (z : Nat) (D : va_G) (cA : Nat → ClassId) (x0 : Int32) (x1 : Int32) (M : Mem) (K : Int32 → Prop) (h : PX11_has x0 x1 M K) : Met l yX11_has (.code yX11_has cX11_has 2 (some .boolean) :: gtbl) ({ frames := 0, cells := 0, slots := 0, locals := 0 } : Room) (va_Pc [.int x0, .int x1] (xB z D cA M)) (va_Qi (fun r M1 => M1 = M ∧ K r) (xWd z D cA) (xA z)) 0 0 (xA z) := by
  refine x_met (by decide +kernel) (Nat.le_of_ble_eq_true rfl) (L0 := [(0, .int x0), (1, .int x1)]) rfl ?_
  intro p e s m args below meth c E hr hlk hnm
  have E : xE RX11 cX11_has 2 D cA p s m args c := E
  refine x_iload_n E dX11_has_0 rfl 0 rfl ?_
  refine x_iload_n E dX11_has_1 rfl 1 rfl ?_
  refine x_ishr E dX11_has_2 ?_
  refine x_iconst (v := (J 1)) E dX11_has_3 (by decide) ?_
  refine x_iand E dX11_has_4 ?_
  refine x_iconst (v := (J 1)) E dX11_has_5 (by decide) ?_
  refine x_icmp_ne (tgt := 13) E dX11_has_6 (by decide) (fun c1 => ?_) (fun c1 => ?_)
  · replace h := xbr_f h c1
    clear c1
    refine x_iconst (v := (J 0)) E dX11_has_13 (by decide) ?_
    exact x_zret E hr hlk dX11_has_14 h.1 ⟨rfl, h.2⟩
  · replace h := xbr_t h c1
    clear c1
    refine x_iconst (v := (J 1)) E dX11_has_9 (by decide) ?_
    refine x_goto (tgt := 14) E dX11_has_10 (by decide) ?_
    exact x_zret E hr hlk dX11_has_14 h.1 ⟨rfl, h.2⟩
theorem dX11_isBook_0 : decode cX11_isBook 0 = .ok (.iload_n 1, 1) := by decide +kernel
theorem dX11_isBook_1 : decode cX11_isBook 1 = .ok (.i2l, 1) := by decide +kernel
theorem dX11_isBook_2 : decode cX11_isBook 2 = .ok (.lconst 0, 1) := by decide +kernel
theorem dX11_isBook_3 : decode cX11_isBook 3 = .ok (.aload_n 0, 1) := by decide +kernel
theorem dX11_isBook_4 : decode cX11_isBook 4 = .ok (.getfield 75, 3) := by decide +kernel
theorem dX11_isBook_7 : decode cX11_isBook 7 = .ok (.iconst 1, 1) := by decide +kernel
theorem dX11_isBook_8 : decode cX11_isBook 8 = .ok (.isub, 1) := by decide +kernel
theorem dX11_isBook_9 : decode cX11_isBook 9 = .ok (.i2l, 1) := by decide +kernel
theorem dX11_isBook_10 : decode cX11_isBook 10 = .ok (.invokestatic 78, 3) := by decide +kernel
theorem dX11_isBook_13 : decode cX11_isBook 13 = .ok (.ireturn, 1) := by decide +kernel
set_option maxHeartbeats 4000000 in
set_option maxRecDepth 100000 in
theorem kX11_isBook (l : Launch) (z : Nat) (D : va_G) (cA : Nat → ClassId) (a0 : Nat) (x1 : Int32) (M : Mem) (K : Int32 → Prop) (h : PX11_isBook a0 x1 M K) : Met l yX11_isBook (.code yX11_isBook cX11_isBook 2 (some .boolean) :: gtbl) ({ frames := 1, cells := 0, slots := 0, locals := 25 } : Room) (va_Pc [.ref a0, .int x1] (xB z D cA M)) (va_Qi (fun r M1 => M1 = M ∧ K r) (xWd z D cA) (xA z)) 0 0 (xA z) := by
  refine x_met (by decide +kernel) (Nat.le_of_ble_eq_true rfl) (L0 := [(0, .ref a0), (1, .int x1)]) rfl ?_
  intro p e s m args below meth c E hr hlk hnm
  have E : xE RX11 cX11_isBook 2 D cA p s m args c := E
  replace h := h.2
  refine x_iload_n E dX11_isBook_0 rfl 1 rfl ?_
  refine x_i2l E dX11_isBook_1 ?_
  refine x_lconst (v := (LJ 0)) E dX11_isBook_2 (by decide) ?_
  refine x_aload_n E dX11_isBook_3 rfl 0 rfl ?_
  obtain ⟨hT, v1, hv, h⟩ := h
  refine x_get E flX11_75 dX11_isBook_4 hT hv ?_
  clear hT hv
  refine x_iconst (v := (J 1)) E dX11_isBook_7 (by decide) ?_
  refine x_isub E dX11_isBook_8 ?_
  refine x_i2l E dX11_isBook_9 ?_
  refine x_callSi (As := [.long x1.toInt64, .long (LJ 0), .long (v1 - (J 1)).toInt64]) E mlX11_78 rfl stX11_in (kX11_in l z D cA x1.toInt64 (LJ 0) (v1 - (J 1)).toInt64 M _ h) rfl ⟨rfl, rfl⟩ ⟨Nat.le_of_ble_eq_true rfl, Nat.le_of_ble_eq_true rfl⟩ ⟨(Nat.le_of_ble_eq_true rfl), (Nat.le_of_ble_eq_true rfl)⟩ (Nat.le_of_ble_eq_true rfl) rfl dX11_isBook_10 (x_pure (fun r2 h => ?_))
  exact x_zret E hr hlk dX11_isBook_13 h.1 ⟨rfl, h.2⟩
theorem dX11_isShelf_0 : decode cX11_isShelf 0 = .ok (.iload_n 0, 1) := by decide +kernel
theorem dX11_isShelf_1 : decode cX11_isShelf 1 = .ok (.i2l, 1) := by decide +kernel
theorem dX11_isShelf_2 : decode cX11_isShelf 2 = .ok (.lconst 0, 1) := by decide +kernel
theorem dX11_isShelf_3 : decode cX11_isShelf 3 = .ok (.ldc2_w 82, 3) := by decide +kernel
theorem dX11_isShelf_6 : decode cX11_isShelf 6 = .ok (.invokestatic 78, 3) := by decide +kernel
theorem dX11_isShelf_9 : decode cX11_isShelf 9 = .ok (.ireturn, 1) := by decide +kernel
set_option maxHeartbeats 4000000 in
set_option maxRecDepth 100000 in
theorem kX11_isShelf (l : Launch) (z : Nat) (D : va_G) (cA : Nat → ClassId) (x0 : Int32) (M : Mem) (K : Int32 → Prop) (h : PX11_isShelf x0 M K) : Met l yX11_isShelf (.code yX11_isShelf cX11_isShelf 1 (some .boolean) :: gtbl) ({ frames := 1, cells := 0, slots := 0, locals := 25 } : Room) (va_Pc [.int x0] (xB z D cA M)) (va_Qi (fun r M1 => M1 = M ∧ K r) (xWd z D cA) (xA z)) 0 0 (xA z) := by
  refine x_met (by decide +kernel) (Nat.le_of_ble_eq_true rfl) (L0 := [(0, .int x0)]) rfl ?_
  intro p e s m args below meth c E hr hlk hnm
  have E : xE RX11 cX11_isShelf 1 D cA p s m args c := E
  refine x_iload_n E dX11_isShelf_0 rfl 0 rfl ?_
  refine x_i2l E dX11_isShelf_1 ?_
  refine x_lconst (v := (LJ 0)) E dX11_isShelf_2 (by decide) ?_
  refine x_ldc2 (v := (LJ 7)) E (gw 1136 (by decide +kernel) rfl) dX11_isShelf_3 ?_
  refine x_callSi (As := [.long x0.toInt64, .long (LJ 0), .long (LJ 7)]) E mlX11_78 rfl stX11_in (kX11_in l z D cA x0.toInt64 (LJ 0) (LJ 7) M _ h) rfl ⟨rfl, rfl⟩ ⟨Nat.le_of_ble_eq_true rfl, Nat.le_of_ble_eq_true rfl⟩ ⟨(Nat.le_of_ble_eq_true rfl), (Nat.le_of_ble_eq_true rfl)⟩ (Nat.le_of_ble_eq_true rfl) rfl dX11_isShelf_6 (x_pure (fun r1 h => ?_))
  exact x_zret E hr hlk dX11_isShelf_9 h.1 ⟨rfl, h.2⟩
theorem dX11_isReading_0 : decode cX11_isReading 0 = .ok (.iload_n 0, 1) := by decide +kernel
theorem dX11_isReading_1 : decode cX11_isReading 1 = .ok (.i2l, 1) := by decide +kernel
theorem dX11_isReading_2 : decode cX11_isReading 2 = .ok (.lconst 0, 1) := by decide +kernel
theorem dX11_isReading_3 : decode cX11_isReading 3 = .ok (.ldc2_w 84, 3) := by decide +kernel
theorem dX11_isReading_6 : decode cX11_isReading 6 = .ok (.invokestatic 78, 3) := by decide +kernel
theorem dX11_isReading_9 : decode cX11_isReading 9 = .ok (.ireturn, 1) := by decide +kernel
set_option maxHeartbeats 4000000 in
set_option maxRecDepth 100000 in
theorem kX11_isReading (l : Launch) (z : Nat) (D : va_G) (cA : Nat → ClassId) (x0 : Int32) (M : Mem) (K : Int32 → Prop) (h : PX11_isReading x0 M K) : Met l yX11_isReading (.code yX11_isReading cX11_isReading 1 (some .boolean) :: gtbl) ({ frames := 1, cells := 0, slots := 0, locals := 25 } : Room) (va_Pc [.int x0] (xB z D cA M)) (va_Qi (fun r M1 => M1 = M ∧ K r) (xWd z D cA) (xA z)) 0 0 (xA z) := by
  refine x_met (by decide +kernel) (Nat.le_of_ble_eq_true rfl) (L0 := [(0, .int x0)]) rfl ?_
  intro p e s m args below meth c E hr hlk hnm
  have E : xE RX11 cX11_isReading 1 D cA p s m args c := E
  refine x_iload_n E dX11_isReading_0 rfl 0 rfl ?_
  refine x_i2l E dX11_isReading_1 ?_
  refine x_lconst (v := (LJ 0)) E dX11_isReading_2 (by decide) ?_
  refine x_ldc2 (v := (LJ 4)) E (gw 1089 (by decide +kernel) rfl) dX11_isReading_3 ?_
  refine x_callSi (As := [.long x0.toInt64, .long (LJ 0), .long (LJ 4)]) E mlX11_78 rfl stX11_in (kX11_in l z D cA x0.toInt64 (LJ 0) (LJ 4) M _ h) rfl ⟨rfl, rfl⟩ ⟨Nat.le_of_ble_eq_true rfl, Nat.le_of_ble_eq_true rfl⟩ ⟨(Nat.le_of_ble_eq_true rfl), (Nat.le_of_ble_eq_true rfl)⟩ (Nat.le_of_ble_eq_true rfl) rfl dX11_isReading_6 (x_pure (fun r1 h => ?_))
  exact x_zret E hr hlk dX11_isReading_9 h.1 ⟨rfl, h.2⟩
theorem dX11_feed_0 : decode cX11_feed 0 = .ok (.iload_n 1, 1) := by decide +kernel
theorem dX11_feed_1 : decode cX11_feed 1 = .ok (.i2l, 1) := by decide +kernel
theorem dX11_feed_2 : decode cX11_feed 2 = .ok (.lconst 1, 1) := by decide +kernel
theorem dX11_feed_3 : decode cX11_feed 3 = .ok (.ldc2_w 86, 3) := by decide +kernel
theorem dX11_feed_6 : decode cX11_feed 6 = .ok (.invokestatic 78, 3) := by decide +kernel
theorem dX11_feed_9 : decode cX11_feed 9 = .ok (.ifCond .ne 7, 3) := by decide +kernel
theorem dX11_feed_12 : decode cX11_feed 12 = .ok (.sipush (-1002), 3) := by decide +kernel
theorem dX11_feed_15 : decode cX11_feed 15 = .ok (.ireturn, 1) := by decide +kernel
theorem dX11_feed_16 : decode cX11_feed 16 = .ok (.aload_n 0, 1) := by decide +kernel
theorem dX11_feed_17 : decode cX11_feed 17 = .ok (.getfield 88, 3) := by decide +kernel
theorem dX11_feed_20 : decode cX11_feed 20 = .ok (.iload_n 1, 1) := by decide +kernel
theorem dX11_feed_21 : decode cX11_feed 21 = .ok (.iadd, 1) := by decide +kernel
theorem dX11_feed_22 : decode cX11_feed 22 = .ok (.sipush 600, 3) := by decide +kernel
theorem dX11_feed_25 : decode cX11_feed 25 = .ok (.if_icmp .le 7, 3) := by decide +kernel
theorem dX11_feed_28 : decode cX11_feed 28 = .ok (.sipush (-1004), 3) := by decide +kernel
theorem dX11_feed_31 : decode cX11_feed 31 = .ok (.ireturn, 1) := by decide +kernel
theorem dX11_feed_32 : decode cX11_feed 32 = .ok (.iload_n 1, 1) := by decide +kernel
theorem dX11_feed_33 : decode cX11_feed 33 = .ok (.iconst 1, 1) := by decide +kernel
theorem dX11_feed_34 : decode cX11_feed 34 = .ok (.isub, 1) := by decide +kernel
theorem dX11_feed_35 : decode cX11_feed 35 = .ok (.istore 4, 2) := by decide +kernel
theorem dX11_feed_37 : decode cX11_feed 37 = .ok (.iload 4, 2) := by decide +kernel
theorem dX11_feed_39 : decode cX11_feed 39 = .ok (.ifCond .lt 40, 3) := by decide +kernel
theorem dX11_feed_42 : decode cX11_feed 42 = .ok (.aload_n 0, 1) := by decide +kernel
theorem dX11_feed_43 : decode cX11_feed 43 = .ok (.getfield 37, 3) := by decide +kernel
theorem dX11_feed_46 : decode cX11_feed 46 = .ok (.aload_n 0, 1) := by decide +kernel
theorem dX11_feed_47 : decode cX11_feed 47 = .ok (.getfield 88, 3) := by decide +kernel
theorem dX11_feed_50 : decode cX11_feed 50 = .ok (.lload_n 2, 1) := by decide +kernel
theorem dX11_feed_51 : decode cX11_feed 51 = .ok (.bipush 8, 2) := by decide +kernel
theorem dX11_feed_53 : decode cX11_feed 53 = .ok (.iload 4, 2) := by decide +kernel
theorem dX11_feed_55 : decode cX11_feed 55 = .ok (.imul, 1) := by decide +kernel
theorem dX11_feed_56 : decode cX11_feed 56 = .ok (.lshr, 1) := by decide +kernel
theorem dX11_feed_57 : decode cX11_feed 57 = .ok (.ldc2_w 91, 3) := by decide +kernel
theorem dX11_feed_60 : decode cX11_feed 60 = .ok (.land, 1) := by decide +kernel
theorem dX11_feed_61 : decode cX11_feed 61 = .ok (.l2i, 1) := by decide +kernel
theorem dX11_feed_62 : decode cX11_feed 62 = .ok (.iastore, 1) := by decide +kernel
theorem dX11_feed_63 : decode cX11_feed 63 = .ok (.aload_n 0, 1) := by decide +kernel
theorem dX11_feed_64 : decode cX11_feed 64 = .ok (.dup, 1) := by decide +kernel
theorem dX11_feed_65 : decode cX11_feed 65 = .ok (.getfield 88, 3) := by decide +kernel
theorem dX11_feed_68 : decode cX11_feed 68 = .ok (.iconst 1, 1) := by decide +kernel
theorem dX11_feed_69 : decode cX11_feed 69 = .ok (.iadd, 1) := by decide +kernel
theorem dX11_feed_70 : decode cX11_feed 70 = .ok (.putfield 88, 3) := by decide +kernel
theorem dX11_feed_73 : decode cX11_feed 73 = .ok (.iinc 4 (-1), 3) := by decide +kernel
theorem dX11_feed_76 : decode cX11_feed 76 = .ok (.goto (-39), 3) := by decide +kernel
theorem dX11_feed_79 : decode cX11_feed 79 = .ok (.aload_n 0, 1) := by decide +kernel
theorem dX11_feed_80 : decode cX11_feed 80 = .ok (.getfield 88, 3) := by decide +kernel
theorem dX11_feed_83 : decode cX11_feed 83 = .ok (.ireturn, 1) := by decide +kernel
set_option maxHeartbeats 4000000 in
set_option maxRecDepth 100000 in
theorem kX11_feed (l : Launch) (z : Nat) (D : va_G) (cA : Nat → ClassId) (a0 : Nat) (x1 : Int32) (x2 : Int64) (M : Mem) (K : Int32 → Mem → Prop) (h : PX11_feed a0 x1 x2 M K) : Met l yX11_feed (.code yX11_feed cX11_feed 5 (some .int) :: gtbl) ({ frames := 1, cells := 0, slots := 0, locals := 25 } : Room) (va_Pc [.ref a0, .int x1, .long x2] (xB z D cA M)) (va_Qi K (xWd z D cA) (xA z)) 0 0 (xA z) := by
  refine x_met (by decide +kernel) (Nat.le_of_ble_eq_true rfl) (L0 := [(0, .ref a0), (1, .int x1), (2, .long x2)]) rfl ?_
  intro p e s m args below meth c E hr hlk hnm
  have E : xE RX11 cX11_feed 5 D cA p s m args c := E
  replace h := h.2
  refine x_iload_n E dX11_feed_0 rfl 1 rfl ?_
  refine x_i2l E dX11_feed_1 ?_
  refine x_lconst (v := (LJ 1)) E dX11_feed_2 (by decide) ?_
  refine x_ldc2 (v := (LJ 8)) E (gw 967 (by decide +kernel) rfl) dX11_feed_3 ?_
  refine x_callSi (As := [.long x1.toInt64, .long (LJ 1), .long (LJ 8)]) E mlX11_78 rfl stX11_in (kX11_in l z D cA x1.toInt64 (LJ 1) (LJ 8) M _ h) rfl ⟨rfl, rfl⟩ ⟨Nat.le_of_ble_eq_true rfl, Nat.le_of_ble_eq_true rfl⟩ ⟨(Nat.le_of_ble_eq_true rfl), (Nat.le_of_ble_eq_true rfl)⟩ (Nat.le_of_ble_eq_true rfl) rfl dX11_feed_6 (x_pure (fun r1 h => ?_))
  refine x_if_ne (tgt := 16) E dX11_feed_9 (by decide) (fun c3 => ?_) (fun c3 => ?_)
  · replace h := xbr_f h c3
    clear c3
    refine x_aload_n E dX11_feed_16 rfl 0 rfl ?_
    obtain ⟨hT, v4, hv, h⟩ := h
    refine x_get E flX11_88 dX11_feed_17 hT hv ?_
    clear hT hv
    refine x_iload_n E dX11_feed_20 rfl 1 rfl ?_
    refine x_iadd E dX11_feed_21 ?_
    refine x_sipush (v := (J 600)) E dX11_feed_22 (by decide) ?_
    refine x_icmp_le (tgt := 32) E dX11_feed_25 (by decide) (fun c5 => ?_) (fun c5 => ?_)
    · replace h := xbr_t h c5
      clear c5
      refine x_iload_n E dX11_feed_32 rfl 1 rfl ?_
      refine x_iconst (v := (J 1)) E dX11_feed_33 (by decide) ?_
      refine x_isub E dX11_feed_34 ?_
      obtain ⟨y6, ey6, h⟩ := h
      refine x_top (v := .int y6) (congrArg _ ey6) ?_
      clear ey6
      refine x_istore (L' := [(4, .int y6), (0, .ref a0), (1, .int x1), (2, .long x2)]) E dX11_feed_35 (by decide) rfl ?_
      refine x_sub (L' := [(0, .ref a0), (2, .long x2), (4, .int y6)]) [1, 3, 0] rfl ?_
      refine lp_sound (T := fun sv => xG p l e ({ frames := 1, cells := 0, slots := 0, locals := 25 } : Room) s m args below meth c (MQ below (va_Qi K (xWd z D cA) (xA z)) args s 0 0 (xA z)) 5 z D cA sv.1 (0) (0) 37 [(0, .ref a0), (2, .long x2), (4, .int sv.2)] []) ?_ (M, y6) h
      clear h
      intro kc37 hk37 sv h
      obtain ⟨M, x4⟩ := sv
      replace h : CX11_feed_37 K a0 x2 kc37 M x4 := h
      try dsimp only
      refine x_iload E dX11_feed_37 2 rfl ?_
      refine x_if_lt (tgt := 79) E dX11_feed_39 (by decide) (fun c7 => ?_) (fun c7 => ?_)
      · replace h := xbr_t h c7
        clear c7
        refine x_aload_n E dX11_feed_79 rfl 0 rfl ?_
        obtain ⟨hT, v8, hv, h⟩ := h
        refine x_get E flX11_88 dX11_feed_80 hT hv ?_
        clear hT hv
        exact x_iret E hr hlk dX11_feed_83 h
      · replace h := xbr_f h c7
        clear c7
        refine x_aload_n E dX11_feed_42 rfl 0 rfl ?_
        obtain ⟨hT, q9, hv, h⟩ := h
        refine x_get E flX11_37 dX11_feed_43 hT hv ?_
        clear hT hv
        refine x_aload_n E dX11_feed_46 rfl 0 rfl ?_
        obtain ⟨hT, v10, hv, h⟩ := h
        refine x_get E flX11_88 dX11_feed_47 hT hv ?_
        clear hT hv
        refine x_lload_n E dX11_feed_50 rfl 1 rfl ?_
        refine x_bipush (v := (J 8)) E dX11_feed_51 (by decide) ?_
        refine x_iload E dX11_feed_53 2 rfl ?_
        refine x_imul E dX11_feed_55 ?_
        refine x_lshr E dX11_feed_56 ?_
        refine x_ldc2 (v := (LJ 255)) E (gw 971 (by decide +kernel) rfl) dX11_feed_57 ?_
        refine x_land E dX11_feed_60 ?_
        refine x_l2i E dX11_feed_61 ?_
        obtain ⟨hT, hi, h⟩ := h
        refine x_iast E dX11_feed_62 hT hi (fun M11 eM11 => ?_)
        replace h := h M11 eM11
        clear hT hi eM11
        refine x_aload_n E dX11_feed_63 rfl 0 rfl ?_
        refine x_dup E dX11_feed_64 rfl ?_
        obtain ⟨hT, v12, hv, h⟩ := h
        refine x_get E flX11_88 dX11_feed_65 hT hv ?_
        clear hT hv
        refine x_iconst (v := (J 1)) E dX11_feed_68 (by decide) ?_
        refine x_iadd E dX11_feed_69 ?_
        obtain ⟨hT, h⟩ := h
        refine x_put E flX11_88 ⟨tyX11_ok, nmX11, rfl⟩ (by decide +kernel) rfl rfl dX11_feed_70 hT (fun M13 eM13 => ?_)
        replace h := h M13 eM13
        clear hT eM13
        refine x_iinc (v := (x4 + (J (-1)))) (L' := [(4, .int (x4 + (J (-1)))), (0, .ref a0), (2, .long x2)]) E dX11_feed_73 2 rfl rfl (by decide) rfl ?_
        refine x_goto (tgt := 37) E dX11_feed_76 (by decide) ?_
        refine x_sub (L' := [(0, .ref a0), (2, .long x2), (4, .int (x4 + (J (-1))))]) [1, 2, 0] rfl ?_
        exact hk37 (M13, (x4 + (J (-1)))) h
    · replace h := xbr_f h c5
      clear c5
      refine x_sipush (v := (J (-1004))) E dX11_feed_28 (by decide) ?_
      exact x_iret E hr hlk dX11_feed_31 h
  · replace h := xbr_t h c3
    clear c3
    refine x_sipush (v := (J (-1002))) E dX11_feed_12 (by decide) ?_
    exact x_iret E hr hlk dX11_feed_15 h
