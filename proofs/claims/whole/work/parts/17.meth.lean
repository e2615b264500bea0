/-! contracts (by program) -/
theorem dX11_ahead_0 : decode cX11_ahead 0 = .ok (.aload_n 0, 1) := by decide +kernel
theorem dX11_ahead_1 : decode cX11_ahead 1 = .ok (.iload_n 1, 1) := by decide +kernel
theorem dX11_ahead_2 : decode cX11_ahead 2 = .ok (.invokevirtual 163, 3) := by decide +kernel
theorem dX11_ahead_5 : decode cX11_ahead 5 = .ok (.ifCond .eq 18, 3) := by decide +kernel
theorem dX11_ahead_8 : decode cX11_ahead 8 = .ok (.aload_n 0, 1) := by decide +kernel
theorem dX11_ahead_9 : decode cX11_ahead 9 = .ok (.iload_n 2, 1) := by decide +kernel
theorem dX11_ahead_10 : decode cX11_ahead 10 = .ok (.invokevirtual 163, 3) := by decide +kernel
theorem dX11_ahead_13 : decode cX11_ahead 13 = .ok (.ifCond .eq 10, 3) := by decide +kernel
theorem dX11_ahead_16 : decode cX11_ahead 16 = .ok (.iload_n 3, 1) := by decide +kernel
theorem dX11_ahead_17 : decode cX11_ahead 17 = .ok (.invokestatic 211, 3) := by decide +kernel
theorem dX11_ahead_20 : decode cX11_ahead 20 = .ok (.ifCond .ne 7, 3) := by decide +kernel
theorem dX11_ahead_23 : decode cX11_ahead 23 = .ok (.sipush (-1001), 3) := by decide +kernel
theorem dX11_ahead_26 : decode cX11_ahead 26 = .ok (.ireturn, 1) := by decide +kernel
theorem dX11_ahead_27 : decode cX11_ahead 27 = .ok (.aload_n 0, 1) := by decide +kernel
theorem dX11_ahead_28 : decode cX11_ahead 28 = .ok (.iload_n 1, 1) := by decide +kernel
theorem dX11_ahead_29 : decode cX11_ahead 29 = .ok (.iload_n 2, 1) := by decide +kernel
theorem dX11_ahead_30 : decode cX11_ahead 30 = .ok (.iload_n 3, 1) := by decide +kernel
theorem dX11_ahead_31 : decode cX11_ahead 31 = .ok (.invokevirtual 214, 3) := by decide +kernel
theorem dX11_ahead_34 : decode cX11_ahead 34 = .ok (.ifCond .eq 7, 3) := by decide +kernel
theorem dX11_ahead_37 : decode cX11_ahead 37 = .ok (.iconst 1, 1) := by decide +kernel
theorem dX11_ahead_38 : decode cX11_ahead 38 = .ok (.goto 4, 3) := by decide +kernel
theorem dX11_ahead_41 : decode cX11_ahead 41 = .ok (.iconst 0, 1) := by decide +kernel
theorem dX11_ahead_42 : decode cX11_ahead 42 = .ok (.ireturn, 1) := by decide +kernel
set_option maxHeartbeats 4000000 in
set_option maxRecDepth 100000 in
theorem kX11_ahead (l : Launch) (z : Nat) (D : va_G) (cA : Nat → ClassId) (a0 : Nat) (x1 : Int32) (x2 : Int32) (x3 : Int32) (M : Mem) (K : Int32 → Prop) (h : PX11_ahead a0 x1 x2 x3 M K) : Met l yX11_ahead (.code yX11_ahead cX11_ahead 4 (some .int) :: gtbl) ({ frames := 3, cells := 0, slots := 0, locals := 73 } : Room) (va_Pc [.ref a0, .int x1, .int x2, .int x3] (xB z D cA M)) (va_Qi (fun r M1 => M1 = M ∧ K r) (xWd z D cA) (xA z)) 0 0 (xA z) := by
  refine x_met (by decide +kernel) (Nat.le_of_ble_eq_true rfl) (L0 := [(0, .ref a0), (1, .int x1), (2, .int x2), (3, .int x3)]) rfl ?_
  intro p e s m args below meth c E hr hlk hnm
  have E : xE RX11 cX11_ahead 4 D cA p s m args c := E
  replace h := h.2
  refine x_aload_n E dX11_ahead_0 rfl 0 rfl ?_
  refine x_iload_n E dX11_ahead_1 rfl 1 rfl ?_
  refine x_callVi (T := TX11) (N := 32) (t := 12) (As := [.int x1]) E mlX11_163 inX11_isBook seX11_isBook rfl ⟨by decide, by decide⟩ (tX11_isBook h) (kX11_isBook l z D cA a0 x1 M _ h) rfl ⟨rfl, rfl⟩ ⟨Nat.le_of_ble_eq_true rfl, Nat.le_of_ble_eq_true rfl⟩ ⟨(Nat.le_of_ble_eq_true rfl), (Nat.le_of_ble_eq_true rfl)⟩ (Nat.le_of_ble_eq_true rfl) rfl dX11_ahead_2 (x_pure (fun r1 h => ?_))
  refine x_if_eq (tgt := 23) E dX11_ahead_5 (by decide) (fun c3 => ?_) (fun c3 => ?_)
  · replace h := xbr_t h c3
    clear c3
    refine x_sipush (v := (J (-1001))) E dX11_ahead_23 (by decide) ?_
    exact x_iret E hr hlk dX11_ahead_26 ⟨rfl, h⟩
  · replace h := xbr_f h c3
    clear c3
    refine x_aload_n E dX11_ahead_8 rfl 0 rfl ?_
    refine x_iload_n E dX11_ahead_9 rfl 2 rfl ?_
    refine x_callVi (T := TX11) (N := 32) (t := 12) (As := [.int x2]) E mlX11_163 inX11_isBook seX11_isBook rfl ⟨by decide, by decide⟩ (tX11_isBook h) (kX11_isBook l z D cA a0 x2 M _ h) rfl ⟨rfl, rfl⟩ ⟨Nat.le_of_ble_eq_true rfl, Nat.le_of_ble_eq_true rfl⟩ ⟨(Nat.le_of_ble_eq_true rfl), (Nat.le_of_ble_eq_true rfl)⟩ (Nat.le_of_ble_eq_true rfl) rfl dX11_ahead_10 (x_pure (fun r4 h => ?_))
    refine x_if_eq (tgt := 23) E dX11_ahead_13 (by decide) (fun c6 => ?_) (fun c6 => ?_)
    · replace h := xbr_t h c6
      clear c6
      refine x_sipush (v := (J (-1001))) E dX11_ahead_23 (by decide) ?_
      exact x_iret E hr hlk dX11_ahead_26 ⟨rfl, h⟩
    · replace h := xbr_f h c6
      clear c6
      refine x_iload_n E dX11_ahead_16 rfl 3 rfl ?_
      refine x_callSi (As := [.int x3]) E mlX11_211 rfl stX11_isReading (kX11_isReading l z D cA x3 M _ h) rfl ⟨rfl, rfl⟩ ⟨Nat.le_of_ble_eq_true rfl, Nat.le_of_ble_eq_true rfl⟩ ⟨(Nat.le_of_ble_eq_true rfl), (Nat.le_of_ble_eq_true rfl)⟩ (Nat.le_of_ble_eq_true rfl) rfl dX11_ahead_17 (x_pure (fun r7 h => ?_))
      refine x_if_ne (tgt := 27) E dX11_ahead_20 (by decide) (fun c9 => ?_) (fun c9 => ?_)
      · replace h := xbr_f h c9
        clear c9
        refine x_aload_n E dX11_ahead_27 rfl 0 rfl ?_
        refine x_iload_n E dX11_ahead_28 rfl 1 rfl ?_
        refine x_iload_n E dX11_ahead_29 rfl 2 rfl ?_
        refine x_iload_n E dX11_ahead_30 rfl 3 rfl ?_
        refine x_callVi (T := TX11) (N := 32) (t := 12) (As := [.int x1, .int x2, .int x3]) E mlX11_214 inX11_isAhead seX11_isAhead rfl ⟨by decide, by decide⟩ (tX11_isAhead h) (kX11_isAhead l z D cA a0 x1 x2 x3 M _ h) rfl ⟨rfl, rfl⟩ ⟨Nat.le_of_ble_eq_true rfl, Nat.le_of_ble_eq_true rfl⟩ ⟨(Nat.le_of_ble_eq_true rfl), (Nat.le_of_ble_eq_true rfl)⟩ (Nat.le_of_ble_eq_true rfl) rfl dX11_ahead_31 (x_pure (fun r10 h => ?_))
        refine x_if_eq (tgt := 41) E dX11_ahead_34 (by decide) (fun c12 => ?_) (fun c12 => ?_)
        · replace h := xbr_t h c12
          clear c12
          refine x_iconst (v := (J 0)) E dX11_ahead_41 (by decide) ?_
          exact x_iret E hr hlk dX11_ahead_42 ⟨rfl, h⟩
        · replace h := xbr_f h c12
          clear c12
          refine x_iconst (v := (J 1)) E dX11_ahead_37 (by decide) ?_
          refine x_goto (tgt := 42) E dX11_ahead_38 (by decide) ?_
          exact x_iret E hr hlk dX11_ahead_42 ⟨rfl, h⟩
      · replace h := xbr_t h c9
        clear c9
        refine x_sipush (v := (J (-1001))) E dX11_ahead_23 (by decide) ?_
        exact x_iret E hr hlk dX11_ahead_26 ⟨rfl, h⟩
theorem dX11_rank_0 : decode cX11_rank 0 = .ok (.iconst 0, 1) := by decide +kernel
theorem dX11_rank_1 : decode cX11_rank 1 = .ok (.istore 4, 2) := by decide +kernel
theorem dX11_rank_3 : decode cX11_rank 3 = .ok (.iconst 0, 1) := by decide +kernel
theorem dX11_rank_4 : decode cX11_rank 4 = .ok (.istore 5, 2) := by decide +kernel
theorem dX11_rank_6 : decode cX11_rank 6 = .ok (.iload 5, 2) := by decide +kernel
theorem dX11_rank_8 : decode cX11_rank 8 = .ok (.aload_n 0, 1) := by decide +kernel
theorem dX11_rank_9 : decode cX11_rank 9 = .ok (.getfield 75, 3) := by decide +kernel
theorem dX11_rank_12 : decode cX11_rank 12 = .ok (.if_icmp .ge 43, 3) := by decide +kernel
theorem dX11_rank_15 : decode cX11_rank 15 = .ok (.iload 4, 2) := by decide +kernel
theorem dX11_rank_17 : decode cX11_rank 17 = .ok (.iload_n 3, 1) := by decide +kernel
theorem dX11_rank_18 : decode cX11_rank 18 = .ok (.ifCond .ne 12, 3) := by decide +kernel
theorem dX11_rank_21 : decode cX11_rank 21 = .ok (.aload_n 0, 1) := by decide +kernel
theorem dX11_rank_22 : decode cX11_rank 22 = .ok (.iload 5, 2) := by decide +kernel
theorem dX11_rank_24 : decode cX11_rank 24 = .ok (.invokevirtual 167, 3) := by decide +kernel
theorem dX11_rank_27 : decode cX11_rank 27 = .ok (.ifCond .lt 18, 3) := by decide +kernel
theorem dX11_rank_30 : decode cX11_rank 30 = .ok (.aload_n 0, 1) := by decide +kernel
theorem dX11_rank_31 : decode cX11_rank 31 = .ok (.iload 5, 2) := by decide +kernel
theorem dX11_rank_33 : decode cX11_rank 33 = .ok (.iload_n 1, 1) := by decide +kernel
theorem dX11_rank_34 : decode cX11_rank 34 = .ok (.iload_n 2, 1) := by decide +kernel
theorem dX11_rank_35 : decode cX11_rank 35 = .ok (.invokevirtual 214, 3) := by decide +kernel
theorem dX11_rank_38 : decode cX11_rank 38 = .ok (.ifCond .eq 7, 3) := by decide +kernel
theorem dX11_rank_41 : decode cX11_rank 41 = .ok (.iconst 1, 1) := by decide +kernel
theorem dX11_rank_42 : decode cX11_rank 42 = .ok (.goto 4, 3) := by decide +kernel
theorem dX11_rank_45 : decode cX11_rank 45 = .ok (.iconst 0, 1) := by decide +kernel
theorem dX11_rank_46 : decode cX11_rank 46 = .ok (.iadd, 1) := by decide +kernel
theorem dX11_rank_47 : decode cX11_rank 47 = .ok (.istore 4, 2) := by decide +kernel
theorem dX11_rank_49 : decode cX11_rank 49 = .ok (.iinc 5 1, 3) := by decide +kernel
theorem dX11_rank_52 : decode cX11_rank 52 = .ok (.goto (-46), 3) := by decide +kernel
theorem dX11_rank_55 : decode cX11_rank 55 = .ok (.iload 4, 2) := by decide +kernel
theorem dX11_rank_57 : decode cX11_rank 57 = .ok (.ireturn, 1) := by decide +kernel
set_option maxHeartbeats 4000000 in
set_option maxRecDepth 100000 in
theorem kX11_rank (l : Launch) (z : Nat) (D : va_G) (cA : Nat → ClassId) (a0 : Nat) (x1 : Int32) (x2 : Int32) (x3 : Int32) (M : Mem) (K : Int32 → Prop) (h : PX11_rank a0 x1 x2 x3 M K) : Met l yX11_rank (.code yX11_rank cX11_rank 6 (some .int) :: gtbl) ({ frames := 3, cells := 0, slots := 0, locals := 73 } : Room) (va_Pc [.ref a0, .int x1, .int x2, .int x3] (xB z D cA M)) (va_Qi (fun r M1 => M1 = M ∧ K r) (xWd z D cA) (xA z)) 0 0 (xA z) := by
  refine x_met (by decide +kernel) (Nat.le_of_ble_eq_true rfl) (L0 := [(0, .ref a0), (1, .int x1), (2, .int x2), (3, .int x3)]) rfl ?_
  intro p e s m args below meth c E hr hlk hnm
  have E : xE RX11 cX11_rank 6 D cA p s m args c := E
  replace h := h.2
  refine x_iconst (v := (J 0)) E dX11_rank_0 (by decide) ?_
  refine x_istore (L' := [(4, .int (J 0)), (0, .ref a0), (1, .int x1), (2, .int x2), (3, .int x3)]) E dX11_rank_1 (by decide) rfl ?_
  refine x_iconst (v := (J 0)) E dX11_rank_3 (by decide) ?_
  refine x_istore (L' := [(5, .int (J 0)), (4, .int (J 0)), (0, .ref a0), (1, .int x1), (2, .int x2), (3, .int x3)]) E dX11_rank_4 (by decide) rfl ?_
  refine x_sub (L' := [(0, .ref a0), (1, .int x1), (2, .int x2), (3, .int x3), (4, .int (J 0)), (5, .int (J 0))]) [2, 3, 4, 5, 1, 0] rfl ?_
  refine lp_sound (T := fun sv => xG p l e ({ frames := 3, cells := 0, slots := 0, locals := 73 } : Room) s m args below meth c (MQ below (va_Qi (fun r M1 => M1 = M ∧ K r) (xWd z D cA) (xA z)) args s 0 0 (xA z)) 6 z D cA M (0) (0) 6 [(0, .ref a0), (1, .int x1), (2, .int x2), (3, .int x3), (4, .int sv.1), (5, .int sv.2)] []) ?_ ((J 0), (J 0)) h
  clear h
  intro kc6 hk6 sv h
  obtain ⟨x4, x5⟩ := sv
  replace h : CX11_rank_6 K M a0 x1 x2 x3 kc6 x4 x5 := h
  try dsimp only
  have hJ30 : ∀ (j5 : Int32) (s0 : Int32), JX11_rank_30 K kc6 M a0 x1 x2 x3 j5 s0 → xG p l e ({ frames := 3, cells := 0, slots := 0, locals := 73 } : Room) s m args below meth c (MQ below (va_Qi (fun r M1 => M1 = M ∧ K r) (xWd z D cA) (xA z)) args s 0 0 (xA z)) 6 z D cA M (0) (0) 30 [(0, .ref a0), (1, .int x1), (2, .int x2), (3, .int x3), (5, .int j5)] [.int s0] := by
    intro j5 s0 h
    refine x_aload_n E dX11_rank_30 rfl 0 rfl ?_
    refine x_iload E dX11_rank_31 4 rfl ?_
    refine x_iload_n E dX11_rank_33 rfl 1 rfl ?_
    refine x_iload_n E dX11_rank_34 rfl 2 rfl ?_
    refine x_callVi (T := TX11) (N := 32) (t := 12) (As := [.int j5, .int x1, .int x2]) E mlX11_214 inX11_isAhead seX11_isAhead rfl ⟨by decide, by decide⟩ (tX11_isAhead h) (kX11_isAhead l z D cA a0 j5 x1 x2 M _ h) rfl ⟨rfl, rfl⟩ ⟨Nat.le_of_ble_eq_true rfl, Nat.le_of_ble_eq_true rfl⟩ ⟨(Nat.le_of_ble_eq_true rfl), (Nat.le_of_ble_eq_true rfl)⟩ (Nat.le_of_ble_eq_true rfl) rfl dX11_rank_35 (x_pure (fun r4 h => ?_))
    refine x_if_eq (tgt := 45) E dX11_rank_38 (by decide) (fun c6 => ?_) (fun c6 => ?_)
    · replace h := xbr_t h c6
      clear c6
      refine x_iconst (v := (J 0)) E dX11_rank_45 (by decide) ?_
      refine x_iadd E dX11_rank_46 ?_
      obtain ⟨y7, ey7, h⟩ := h
      refine x_top (v := .int y7) (congrArg _ ey7) ?_
      clear ey7
      refine x_istore (L' := [(4, .int y7), (0, .ref a0), (1, .int x1), (2, .int x2), (3, .int x3), (5, .int j5)]) E dX11_rank_47 (by decide) rfl ?_
      refine x_iinc (v := (j5 + (J 1))) (L' := [(5, .int (j5 + (J 1))), (4, .int y7), (0, .ref a0), (1, .int x1), (2, .int x2), (3, .int x3)]) E dX11_rank_49 5 rfl rfl (by decide) rfl ?_
      refine x_goto (tgt := 6) E dX11_rank_52 (by decide) ?_
      refine x_sub (L' := [(0, .ref a0), (1, .int x1), (2, .int x2), (3, .int x3), (4, .int y7), (5, .int (j5 + (J 1)))]) [2, 3, 4, 5, 1, 0] rfl ?_
      exact hk6 (y7, (j5 + (J 1))) h
    · replace h := xbr_f h c6
      clear c6
      refine x_iconst (v := (J 1)) E dX11_rank_41 (by decide) ?_
      refine x_goto (tgt := 46) E dX11_rank_42 (by decide) ?_
      refine x_iadd E dX11_rank_46 ?_
      obtain ⟨y8, ey8, h⟩ := h
      refine x_top (v := .int y8) (congrArg _ ey8) ?_
      clear ey8
      refine x_istore (L' := [(4, .int y8), (0, .ref a0), (1, .int x1), (2, .int x2), (3, .int x3), (5, .int j5)]) E dX11_rank_47 (by decide) rfl ?_
      refine x_iinc (v := (j5 + (J 1))) (L' := [(5, .int (j5 + (J 1))), (4, .int y8), (0, .ref a0), (1, .int x1), (2, .int x2), (3, .int x3)]) E dX11_rank_49 5 rfl rfl (by decide) rfl ?_
      refine x_goto (tgt := 6) E dX11_rank_52 (by decide) ?_
      refine x_sub (L' := [(0, .ref a0), (1, .int x1), (2, .int x2), (3, .int x3), (4, .int y8), (5, .int (j5 + (J 1)))]) [2, 3, 4, 5, 1, 0] rfl ?_
      exact hk6 (y8, (j5 + (J 1))) h
  refine x_iload E dX11_rank_6 5 rfl ?_
  refine x_aload_n E dX11_rank_8 rfl 0 rfl ?_
  obtain ⟨hT, v1, hv, h⟩ := h
  refine x_get E flX11_75 dX11_rank_9 hT hv ?_
  clear hT hv
  refine x_icmp_ge (tgt := 55) E dX11_rank_12 (by decide) (fun c2 => ?_) (fun c2 => ?_)
  · replace h := xbr_t h c2
    clear c2
    refine x_iload E dX11_rank_55 4 rfl ?_
    exact x_iret E hr hlk dX11_rank_57 ⟨rfl, h⟩
  · replace h := xbr_f h c2
    clear c2
    refine x_iload E dX11_rank_15 4 rfl ?_
    refine x_iload_n E dX11_rank_17 rfl 3 rfl ?_
    refine x_if_ne (tgt := 30) E dX11_rank_18 (by decide) (fun c3 => ?_) (fun c3 => ?_)
    · replace h := xbr_f h c3
      clear c3
      refine x_sub (L' := [(0, .ref a0), (1, .int x1), (2, .int x2), (3, .int x3), (5, .int x5)]) [0, 1, 2, 3, 5] rfl ?_
      exact hJ30 x5 x4 h
    · replace h := xbr_t h c3
      clear c3
      refine x_aload_n E dX11_rank_21 rfl 0 rfl ?_
      refine x_iload E dX11_rank_22 5 rfl ?_
      refine x_callVi (T := TX11) (N := 32) (t := 12) (As := [.int x5]) E mlX11_167 inX11_placeOf seX11_placeOf rfl ⟨by decide, by decide⟩ (tX11_placeOf h) (kX11_placeOf l z D cA a0 x5 M _ h) rfl ⟨rfl, rfl⟩ ⟨Nat.le_of_ble_eq_true rfl, Nat.le_of_ble_eq_true rfl⟩ ⟨(Nat.le_of_ble_eq_true rfl), (Nat.le_of_ble_eq_true rfl)⟩ (Nat.le_of_ble_eq_true rfl) rfl dX11_rank_24 (x_pure (fun r9 h => ?_))
      refine x_if_lt (tgt := 45) E dX11_rank_27 (by decide) (fun c11 => ?_) (fun c11 => ?_)
      · replace h := xbr_t h c11
        clear c11
        refine x_iconst (v := (J 0)) E dX11_rank_45 (by decide) ?_
        refine x_iadd E dX11_rank_46 ?_
        obtain ⟨y12, ey12, h⟩ := h
        refine x_top (v := .int y12) (congrArg _ ey12) ?_
        clear ey12
        refine x_istore (L' := [(4, .int y12), (0, .ref a0), (1, .int x1), (2, .int x2), (3, .int x3), (5, .int x5)]) E dX11_rank_47 (by decide) rfl ?_
        refine x_iinc (v := (x5 + (J 1))) (L' := [(5, .int (x5 + (J 1))), (4, .int y12), (0, .ref a0), (1, .int x1), (2, .int x2), (3, .int x3)]) E dX11_rank_49 5 rfl rfl (by decide) rfl ?_
        refine x_goto (tgt := 6) E dX11_rank_52 (by decide) ?_
        refine x_sub (L' := [(0, .ref a0), (1, .int x1), (2, .int x2), (3, .int x3), (4, .int y12), (5, .int (x5 + (J 1)))]) [2, 3, 4, 5, 1, 0] rfl ?_
        exact hk6 (y12, (x5 + (J 1))) h
      · replace h := xbr_f h c11
        clear c11
        refine x_sub (L' := [(0, .ref a0), (1, .int x1), (2, .int x2), (3, .int x3), (5, .int x5)]) [0, 1, 2, 3, 5] rfl ?_
        exact hJ30 x5 x4 h
theorem dX11_order_0 : decode cX11_order 0 = .ok (.iload_n 1, 1) := by decide +kernel
theorem dX11_order_1 : decode cX11_order 1 = .ok (.invokestatic 211, 3) := by decide +kernel
theorem dX11_order_4 : decode cX11_order 4 = .ok (.ifCond .ne 7, 3) := by decide +kernel
theorem dX11_order_7 : decode cX11_order 7 = .ok (.sipush (-1001), 3) := by decide +kernel
theorem dX11_order_10 : decode cX11_order 10 = .ok (.ireturn, 1) := by decide +kernel
theorem dX11_order_11 : decode cX11_order 11 = .ok (.iconst 0, 1) := by decide +kernel
theorem dX11_order_12 : decode cX11_order 12 = .ok (.istore_n 3, 1) := by decide +kernel
theorem dX11_order_13 : decode cX11_order 13 = .ok (.iload_n 3, 1) := by decide +kernel
theorem dX11_order_14 : decode cX11_order 14 = .ok (.aload_n 0, 1) := by decide +kernel
theorem dX11_order_15 : decode cX11_order 15 = .ok (.getfield 75, 3) := by decide +kernel
theorem dX11_order_18 : decode cX11_order 18 = .ok (.if_icmp .ge 22, 3) := by decide +kernel
theorem dX11_order_21 : decode cX11_order 21 = .ok (.aload_n 0, 1) := by decide +kernel
theorem dX11_order_22 : decode cX11_order 22 = .ok (.iload_n 3, 1) := by decide +kernel
theorem dX11_order_23 : decode cX11_order 23 = .ok (.iload_n 1, 1) := by decide +kernel
theorem dX11_order_24 : decode cX11_order 24 = .ok (.iconst 1, 1) := by decide +kernel
theorem dX11_order_25 : decode cX11_order 25 = .ok (.invokevirtual 218, 3) := by decide +kernel
theorem dX11_order_28 : decode cX11_order 28 = .ok (.iload_n 2, 1) := by decide +kernel
theorem dX11_order_29 : decode cX11_order 29 = .ok (.if_icmp .ne 5, 3) := by decide +kernel
theorem dX11_order_32 : decode cX11_order 32 = .ok (.iload_n 3, 1) := by decide +kernel
theorem dX11_order_33 : decode cX11_order 33 = .ok (.ireturn, 1) := by decide +kernel
theorem dX11_order_34 : decode cX11_order 34 = .ok (.iinc 3 1, 3) := by decide +kernel
theorem dX11_order_37 : decode cX11_order 37 = .ok (.goto (-24), 3) := by decide +kernel
theorem dX11_order_40 : decode cX11_order 40 = .ok (.iconst (-1), 1) := by decide +kernel
theorem dX11_order_41 : decode cX11_order 41 = .ok (.ireturn, 1) := by decide +kernel
set_option maxHeartbeats 4000000 in
set_option maxRecDepth 100000 in
theorem kX11_order (l : Launch) (z : Nat) (D : va_G) (cA : Nat → ClassId) (a0 : Nat) (x1 : Int32) (x2 : Int32) (M : Mem) (K : Int32 → Prop) (h : PX11_order a0 x1 x2 M K) : Met l yX11_order (.code yX11_order cX11_order 4 (some .int) :: gtbl) ({ frames := 4, cells := 0, slots := 0, locals := 98 } : Room) (va_Pc [.ref a0, .int x1, .int x2] (xB z D cA M)) (va_Qi (fun r M1 => M1 = M ∧ K r) (xWd z D cA) (xA z)) 0 0 (xA z) := by
  refine x_met (by decide +kernel) (Nat.le_of_ble_eq_true rfl) (L0 := [(0, .ref a0), (1, .int x1), (2, .int x2)]) rfl ?_
  intro p e s m args below meth c E hr hlk hnm
  have E : xE RX11 cX11_order 4 D cA p s m args c := E
  replace h := h.2
  refine x_iload_n E dX11_order_0 rfl 1 rfl ?_
  refine x_callSi (As := [.int x1]) E mlX11_211 rfl stX11_isReading (kX11_isReading l z D cA x1 M _ h) rfl ⟨rfl, rfl⟩ ⟨Nat.le_of_ble_eq_true rfl, Nat.le_of_ble_eq_true rfl⟩ ⟨(Nat.le_of_ble_eq_true rfl), (Nat.le_of_ble_eq_true rfl)⟩ (Nat.le_of_ble_eq_true rfl) rfl dX11_order_1 (x_pure (fun r1 h => ?_))
  refine x_if_ne (tgt := 11) E dX11_order_4 (by decide) (fun c3 => ?_) (fun c3 => ?_)
  · replace h := xbr_f h c3
    clear c3
    refine x_iconst (v := (J 0)) E dX11_order_11 (by decide) ?_
    refine x_istore_n (L' := [(3, .int (J 0)), (0, .ref a0), (1, .int x1), (2, .int x2)]) E dX11_order_12 rfl (by decide) rfl ?_
    refine x_sub (L' := [(0, .ref a0), (1, .int x1), (2, .int x2), (3, .int (J 0))]) [1, 2, 3, 0] rfl ?_
    refine lp_sound (T := fun sv => xG p l e ({ frames := 4, cells := 0, slots := 0, locals := 98 } : Room) s m args below meth c (MQ below (va_Qi (fun r M1 => M1 = M ∧ K r) (xWd z D cA) (xA z)) args s 0 0 (xA z)) 4 z D cA M (0) (0) 13 [(0, .ref a0), (1, .int x1), (2, .int x2), (3, .int sv)] []) ?_ (J 0) h
    clear h
    intro kc13 hk13 sv h
    obtain ⟨x3, esv⟩ : ∃ y, y = sv := ⟨_, rfl⟩
    subst esv
    replace h : CX11_order_13 K M a0 x1 x2 kc13 x3 := h
    try dsimp only
    refine x_iload_n E dX11_order_13 rfl 3 rfl ?_
    refine x_aload_n E dX11_order_14 rfl 0 rfl ?_
    obtain ⟨hT, v4, hv, h⟩ := h
    refine x_get E flX11_75 dX11_order_15 hT hv ?_
    clear hT hv
    refine x_icmp_ge (tgt := 40) E dX11_order_18 (by decide) (fun c5 => ?_) (fun c5 => ?_)
    · replace h := xbr_t h c5
      clear c5
      refine x_iconst (v := (J (-1))) E dX11_order_40 (by decide) ?_
      exact x_iret E hr hlk dX11_order_41 ⟨rfl, h⟩
    · replace h := xbr_f h c5
      clear c5
      refine x_aload_n E dX11_order_21 rfl 0 rfl ?_
      refine x_iload_n E dX11_order_22 rfl 3 rfl ?_
      refine x_iload_n E dX11_order_23 rfl 1 rfl ?_
      refine x_iconst (v := (J 1)) E dX11_order_24 (by decide) ?_
      refine x_callVi (T := TX11) (N := 32) (t := 12) (As := [.int x3, .int x1, .int (J 1)]) E mlX11_218 inX11_rank seX11_rank rfl ⟨by decide, by decide⟩ (tX11_rank h) (kX11_rank l z D cA a0 x3 x1 (J 1) M _ h) rfl ⟨rfl, rfl⟩ ⟨Nat.le_of_ble_eq_true rfl, Nat.le_of_ble_eq_true rfl⟩ ⟨(Nat.le_of_ble_eq_true rfl), (Nat.le_of_ble_eq_true rfl)⟩ (Nat.le_of_ble_eq_true rfl) rfl dX11_order_25 (x_pure (fun r6 h => ?_))
      refine x_iload_n E dX11_order_28 rfl 2 rfl ?_
      refine x_icmp_ne (tgt := 34) E dX11_order_29 (by decide) (fun c8 => ?_) (fun c8 => ?_)
      · replace h := xbr_f h c8
        clear c8
        refine x_iinc (v := (x3 + (J 1))) (L' := [(3, .int (x3 + (J 1))), (0, .ref a0), (1, .int x1), (2, .int x2)]) E dX11_order_34 3 rfl rfl (by decide) rfl ?_
        refine x_goto (tgt := 13) E dX11_order_37 (by decide) ?_
        refine x_sub (L' := [(0, .ref a0), (1, .int x1), (2, .int x2), (3, .int (x3 + (J 1)))]) [1, 2, 3, 0] rfl ?_
        exact hk13 (x3 + (J 1)) h
      · replace h := xbr_t h c8
        clear c8
        refine x_iload_n E dX11_order_32 rfl 3 rfl ?_
        exact x_iret E hr hlk dX11_order_33 ⟨rfl, h⟩
  · replace h := xbr_t h c3
    clear c3
    refine x_sipush (v := (J (-1001))) E dX11_order_7 (by decide) ?_
    exact x_iret E hr hlk dX11_order_10 ⟨rfl, h⟩
theorem dX11_bits_0 : decode cX11_bits 0 = .ok (.iconst 0, 1) := by decide +kernel
theorem dX11_bits_1 : decode cX11_bits 1 = .ok (.istore_n 1, 1) := by decide +kernel
theorem dX11_bits_2 : decode cX11_bits 2 = .ok (.iconst 0, 1) := by decide +kernel
theorem dX11_bits_3 : decode cX11_bits 3 = .ok (.istore_n 2, 1) := by decide +kernel
theorem dX11_bits_4 : decode cX11_bits 4 = .ok (.iload_n 2, 1) := by decide +kernel
theorem dX11_bits_5 : decode cX11_bits 5 = .ok (.bipush 24, 2) := by decide +kernel
theorem dX11_bits_7 : decode cX11_bits 7 = .ok (.if_icmp .ge 17, 3) := by decide +kernel
theorem dX11_bits_10 : decode cX11_bits 10 = .ok (.iload_n 1, 1) := by decide +kernel
theorem dX11_bits_11 : decode cX11_bits 11 = .ok (.iload_n 0, 1) := by decide +kernel
theorem dX11_bits_12 : decode cX11_bits 12 = .ok (.iload_n 2, 1) := by decide +kernel
theorem dX11_bits_13 : decode cX11_bits 13 = .ok (.ishr, 1) := by decide +kernel
theorem dX11_bits_14 : decode cX11_bits 14 = .ok (.iconst 1, 1) := by decide +kernel
theorem dX11_bits_15 : decode cX11_bits 15 = .ok (.iand, 1) := by decide +kernel
theorem dX11_bits_16 : decode cX11_bits 16 = .ok (.iadd, 1) := by decide +kernel
theorem dX11_bits_17 : decode cX11_bits 17 = .ok (.istore_n 1, 1) := by decide +kernel
theorem dX11_bits_18 : decode cX11_bits 18 = .ok (.iinc 2 1, 3) := by decide +kernel
theorem dX11_bits_21 : decode cX11_bits 21 = .ok (.goto (-17), 3) := by decide +kernel
theorem dX11_bits_24 : decode cX11_bits 24 = .ok (.iload_n 1, 1) := by decide +kernel
theorem dX11_bits_25 : decode cX11_bits 25 = .ok (.ireturn, 1) := by decide +kernel
set_option maxHeartbeats 4000000 in
set_option maxRecDepth 100000 in
theorem kX11_bits (l : Launch) (z : Nat) (D : va_G) (cA : Nat → ClassId) (x0 : Int32) (M : Mem) (K : Int32 → Prop) (h : PX11_bits x0 M K) : Met l yX11_bits (.code yX11_bits cX11_bits 3 (some .int) :: gtbl) ({ frames := 0, cells := 0, slots := 0, locals := 0 } : Room) (va_Pc [.int x0] (xB z D cA M)) (va_Qi (fun r M1 => M1 = M ∧ K r) (xWd z D cA) (xA z)) 0 0 (xA z) := by
  refine x_met (by decide +kernel) (Nat.le_of_ble_eq_true rfl) (L0 := [(0, .int x0)]) rfl ?_
  intro p e s m args below meth c E hr hlk hnm
  have E : xE RX11 cX11_bits 3 D cA p s m args c := E
  refine x_iconst (v := (J 0)) E dX11_bits_0 (by decide) ?_
  refine x_istore_n (L' := [(1, .int (J 0)), (0, .int x0)]) E dX11_bits_1 rfl (by decide) rfl ?_
  refine x_iconst (v := (J 0)) E dX11_bits_2 (by decide) ?_
  refine x_istore_n (L' := [(2, .int (J 0)), (1, .int (J 0)), (0, .int x0)]) E dX11_bits_3 rfl (by decide) rfl ?_
  refine x_sub (L' := [(0, .int x0), (1, .int (J 0)), (2, .int (J 0))]) [2, 1, 0] rfl ?_
  refine lp_sound (T := fun sv => xG p l e ({ frames := 0, cells := 0, slots := 0, locals := 0 } : Room) s m args below meth c (MQ below (va_Qi (fun r M1 => M1 = M ∧ K r) (xWd z D cA) (xA z)) args s 0 0 (xA z)) 3 z D cA M (0) (0) 4 [(0, .int x0), (1, .int sv.1), (2, .int sv.2)] []) ?_ ((J 0), (J 0)) h
  clear h
  intro kc4 hk4 sv h
  obtain ⟨x1, x2⟩ := sv
  replace h : CX11_bits_4 K M x0 kc4 x1 x2 := h
  try dsimp only
  refine x_iload_n E dX11_bits_4 rfl 2 rfl ?_
  refine x_bipush (v := (J 24)) E dX11_bits_5 (by decide) ?_
  refine x_icmp_ge (tgt := 24) E dX11_bits_7 (by decide) (fun c1 => ?_) (fun c1 => ?_)
  · replace h := xbr_t h c1
    clear c1
    refine x_iload_n E dX11_bits_24 rfl 1 rfl ?_
    exact x_iret E hr hlk dX11_bits_25 ⟨rfl, h⟩
  · replace h := xbr_f h c1
    clear c1
    refine x_iload_n E dX11_bits_10 rfl 1 rfl ?_
    refine x_iload_n E dX11_bits_11 rfl 0 rfl ?_
    refine x_iload_n E dX11_bits_12 rfl 2 rfl ?_
    refine x_ishr E dX11_bits_13 ?_
    refine x_iconst (v := (J 1)) E dX11_bits_14 (by decide) ?_
    refine x_iand E dX11_bits_15 ?_
    refine x_iadd E dX11_bits_16 ?_
    obtain ⟨y2, ey2, h⟩ := h
    refine x_top (v := .int y2) (congrArg _ ey2) ?_
    clear ey2
    refine x_istore_n (L' := [(1, .int y2), (0, .int x0), (2, .int x2)]) E dX11_bits_17 rfl (by decide) rfl ?_
    refine x_iinc (v := (x2 + (J 1))) (L' := [(2, .int (x2 + (J 1))), (1, .int y2), (0, .int x0)]) E dX11_bits_18 2 rfl rfl (by decide) rfl ?_
    refine x_goto (tgt := 4) E dX11_bits_21 (by decide) ?_
    refine x_sub (L' := [(0, .int x0), (1, .int y2), (2, .int (x2 + (J 1)))]) [2, 1, 0] rfl ?_
    exact hk4 (y2, (x2 + (J 1))) h
theorem dX11_count_0 : decode cX11_count 0 = .ok (.iload_n 1, 1) := by decide +kernel
theorem dX11_count_1 : decode cX11_count 1 = .ok (.tableswitch 54 0 3 #[31, 36, 41, 46], 31) := by decide +kernel
theorem dX11_count_32 : decode cX11_count 32 = .ok (.aload_n 0, 1) := by decide +kernel
theorem dX11_count_33 : decode cX11_count 33 = .ok (.getfield 75, 3) := by decide +kernel
theorem dX11_count_36 : decode cX11_count 36 = .ok (.ireturn, 1) := by decide +kernel
theorem dX11_count_37 : decode cX11_count 37 = .ok (.aload_n 0, 1) := by decide +kernel
theorem dX11_count_38 : decode cX11_count 38 = .ok (.getfield 222, 3) := by decide +kernel
theorem dX11_count_41 : decode cX11_count 41 = .ok (.ireturn, 1) := by decide +kernel
theorem dX11_count_42 : decode cX11_count 42 = .ok (.aload_n 0, 1) := by decide +kernel
theorem dX11_count_43 : decode cX11_count 43 = .ok (.getfield 88, 3) := by decide +kernel
theorem dX11_count_46 : decode cX11_count 46 = .ok (.ireturn, 1) := by decide +kernel
theorem dX11_count_47 : decode cX11_count 47 = .ok (.aload_n 0, 1) := by decide +kernel
theorem dX11_count_48 : decode cX11_count 48 = .ok (.getfield 225, 3) := by decide +kernel
theorem dX11_count_51 : decode cX11_count 51 = .ok (.invokestatic 228, 3) := by decide +kernel
theorem dX11_count_54 : decode cX11_count 54 = .ok (.ireturn, 1) := by decide +kernel
theorem dX11_count_55 : decode cX11_count 55 = .ok (.sipush (-1002), 3) := by decide +kernel
theorem dX11_count_58 : decode cX11_count 58 = .ok (.ireturn, 1) := by decide +kernel
set_option maxHeartbeats 4000000 in
set_option maxRecDepth 100000 in
theorem kX11_count (l : Launch) (z : Nat) (D : va_G) (cA : Nat → ClassId) (a0 : Nat) (x1 : Int32) (M : Mem) (K : Int32 → Prop) (h : PX11_count a0 x1 M K) : Met l yX11_count (.code yX11_count cX11_count 2 (some .int) :: gtbl) ({ frames := 1, cells := 0, slots := 0, locals := 22 } : Room) (va_Pc [.ref a0, .int x1] (xB z D cA M)) (va_Qi (fun r M1 => M1 = M ∧ K r) (xWd z D cA) (xA z)) 0 0 (xA z) := by
  refine x_met (by decide +kernel) (Nat.le_of_ble_eq_true rfl) (L0 := [(0, .ref a0), (1, .int x1)]) rfl ?_
  intro p e s m args below meth c E hr hlk hnm
  have E : xE RX11 cX11_count 2 D cA p s m args c := E
  replace h := h.2
  refine x_iload_n E dX11_count_0 rfl 1 rfl ?_
  by_cases c1 : x1 = (J 0)
  · replace h := xbr_t h c1
    refine x_tableIn (off := 31) (tgt := 32) E dX11_count_1 (by rw [c1]; decide) (by rw [c1]; decide) (by rw [c1]; decide) (by decide) ?_
    refine x_aload_n E dX11_count_32 rfl 0 rfl ?_
    obtain ⟨hT, v2, hv, h⟩ := h
    refine x_get E flX11_75 dX11_count_33 hT hv ?_
    clear hT hv
    exact x_iret E hr hlk dX11_count_36 ⟨rfl, h⟩
  replace h := xbr_f h c1
  by_cases c3 : x1 = (J 1)
  · replace h := xbr_t h c3
    refine x_tableIn (off := 36) (tgt := 37) E dX11_count_1 (by rw [c3]; decide) (by rw [c3]; decide) (by rw [c3]; decide) (by decide) ?_
    refine x_aload_n E dX11_count_37 rfl 0 rfl ?_
    obtain ⟨hT, v4, hv, h⟩ := h
    refine x_get E flX11_222 dX11_count_38 hT hv ?_
    clear hT hv
    exact x_iret E hr hlk dX11_count_41 ⟨rfl, h⟩
  replace h := xbr_f h c3
  by_cases c5 : x1 = (J 2)
  · replace h := xbr_t h c5
    refine x_tableIn (off := 41) (tgt := 42) E dX11_count_1 (by rw [c5]; decide) (by rw [c5]; decide) (by rw [c5]; decide) (by decide) ?_
    refine x_aload_n E dX11_count_42 rfl 0 rfl ?_
    obtain ⟨hT, v6, hv, h⟩ := h
    refine x_get E flX11_88 dX11_count_43 hT hv ?_
    clear hT hv
    exact x_iret E hr hlk dX11_count_46 ⟨rfl, h⟩
  replace h := xbr_f h c5
  by_cases c7 : x1 = (J 3)
  · replace h := xbr_t h c7
    refine x_tableIn (off := 46) (tgt := 47) E dX11_count_1 (by rw [c7]; decide) (by rw [c7]; decide) (by rw [c7]; decide) (by decide) ?_
    refine x_aload_n E dX11_count_47 rfl 0 rfl ?_
    obtain ⟨hT, v8, hv, h⟩ := h
    refine x_get E flX11_225 dX11_count_48 hT hv ?_
    clear hT hv
    refine x_callSi (As := [.int v8]) E mlX11_228 rfl stX11_bits (kX11_bits l z D cA v8 M _ h) rfl ⟨rfl, rfl⟩ ⟨Nat.le_of_ble_eq_true rfl, Nat.le_of_ble_eq_true rfl⟩ ⟨(Nat.le_of_ble_eq_true rfl), (Nat.le_of_ble_eq_true rfl)⟩ (Nat.le_of_ble_eq_true rfl) rfl dX11_count_51 (x_pure (fun r9 h => ?_))
    exact x_iret E hr hlk dX11_count_54 ⟨rfl, h⟩
  replace h := xbr_f h c7
  have nc1 := lv_neT c1 (a := 0) (by decide)
  have nc3 := lv_neT c3 (a := 1) (by decide)
  have nc5 := lv_neT c5 (a := 2) (by decide)
  have nc7 := lv_neT c7 (a := 3) (by decide)
  refine x_tableOut (tgt := 55) E dX11_count_1 (by omega) (by decide) ?_
  clear c1 c3 c5 c7
  clear nc1 nc3 nc5 nc7
  refine x_sipush (v := (J (-1002))) E dX11_count_55 (by decide) ?_
  exact x_iret E hr hlk dX11_count_58 ⟨rfl, h⟩
theorem dX11_usedOn_0 : decode cX11_usedOn 0 = .ok (.iconst 0, 1) := by decide +kernel
theorem dX11_usedOn_1 : decode cX11_usedOn 1 = .ok (.istore_n 2, 1) := by decide +kernel
theorem dX11_usedOn_2 : decode cX11_usedOn 2 = .ok (.aload_n 0, 1) := by decide +kernel
theorem dX11_usedOn_3 : decode cX11_usedOn 3 = .ok (.iload_n 1, 1) := by decide +kernel
theorem dX11_usedOn_4 : decode cX11_usedOn 4 = .ok (.invokevirtual 177, 3) := by decide +kernel
theorem dX11_usedOn_7 : decode cX11_usedOn 7 = .ok (.istore_n 3, 1) := by decide +kernel
theorem dX11_usedOn_8 : decode cX11_usedOn 8 = .ok (.iload_n 3, 1) := by decide +kernel
theorem dX11_usedOn_9 : decode cX11_usedOn 9 = .ok (.istore 4, 2) := by decide +kernel
theorem dX11_usedOn_11 : decode cX11_usedOn 11 = .ok (.iload 4, 2) := by decide +kernel
theorem dX11_usedOn_13 : decode cX11_usedOn 13 = .ok (.iload_n 3, 1) := by decide +kernel
theorem dX11_usedOn_14 : decode cX11_usedOn 14 = .ok (.aload_n 0, 1) := by decide +kernel
theorem dX11_usedOn_15 : decode cX11_usedOn 15 = .ok (.getfield 31, 3) := by decide +kernel
theorem dX11_usedOn_18 : decode cX11_usedOn 18 = .ok (.iload_n 1, 1) := by decide +kernel
theorem dX11_usedOn_19 : decode cX11_usedOn 19 = .ok (.iaload, 1) := by decide +kernel
theorem dX11_usedOn_20 : decode cX11_usedOn 20 = .ok (.iadd, 1) := by decide +kernel
theorem dX11_usedOn_21 : decode cX11_usedOn 21 = .ok (.if_icmp .ge 24, 3) := by decide +kernel
theorem dX11_usedOn_24 : decode cX11_usedOn 24 = .ok (.iload_n 2, 1) := by decide +kernel
theorem dX11_usedOn_25 : decode cX11_usedOn 25 = .ok (.aload_n 0, 1) := by decide +kernel
theorem dX11_usedOn_26 : decode cX11_usedOn 26 = .ok (.getfield 22, 3) := by decide +kernel
theorem dX11_usedOn_29 : decode cX11_usedOn 29 = .ok (.aload_n 0, 1) := by decide +kernel
theorem dX11_usedOn_30 : decode cX11_usedOn 30 = .ok (.getfield 28, 3) := by decide +kernel
theorem dX11_usedOn_33 : decode cX11_usedOn 33 = .ok (.iload 4, 2) := by decide +kernel
theorem dX11_usedOn_35 : decode cX11_usedOn 35 = .ok (.iaload, 1) := by decide +kernel
theorem dX11_usedOn_36 : decode cX11_usedOn 36 = .ok (.iaload, 1) := by decide +kernel
theorem dX11_usedOn_37 : decode cX11_usedOn 37 = .ok (.iadd, 1) := by decide +kernel
theorem dX11_usedOn_38 : decode cX11_usedOn 38 = .ok (.istore_n 2, 1) := by decide +kernel
theorem dX11_usedOn_39 : decode cX11_usedOn 39 = .ok (.iinc 4 1, 3) := by decide +kernel
theorem dX11_usedOn_42 : decode cX11_usedOn 42 = .ok (.goto (-31), 3) := by decide +kernel
theorem dX11_usedOn_45 : decode cX11_usedOn 45 = .ok (.iload_n 2, 1) := by decide +kernel
theorem dX11_usedOn_46 : decode cX11_usedOn 46 = .ok (.ireturn, 1) := by decide +kernel
set_option maxHeartbeats 4000000 in
set_option maxRecDepth 100000 in
theorem kX11_usedOn (l : Launch) (z : Nat) (D : va_G) (cA : Nat → ClassId) (a0 : Nat) (x1 : Int32) (M : Mem) (K : Int32 → Prop) (h : PX11_usedOn a0 x1 M K) : Met l yX11_usedOn (.code yX11_usedOn cX11_usedOn 5 (some .int) :: gtbl) ({ frames := 1, cells := 0, slots := 0, locals := 23 } : Room) (va_Pc [.ref a0, .int x1] (xB z D cA M)) (va_Qi (fun r M1 => M1 = M ∧ K r) (xWd z D cA) (xA z)) 0 0 (xA z) := by
  refine x_met (by decide +kernel) (Nat.le_of_ble_eq_true rfl) (L0 := [(0, .ref a0), (1, .int x1)]) rfl ?_
  intro p e s m args below meth c E hr hlk hnm
  have E : xE RX11 cX11_usedOn 5 D cA p s m args c := E
  replace h := h.2
  refine x_iconst (v := (J 0)) E dX11_usedOn_0 (by decide) ?_
  refine x_istore_n (L' := [(2, .int (J 0)), (0, .ref a0), (1, .int x1)]) E dX11_usedOn_1 rfl (by decide) rfl ?_
  refine x_aload_n E dX11_usedOn_2 rfl 1 rfl ?_
  refine x_iload_n E dX11_usedOn_3 rfl 2 rfl ?_
  refine x_callVi (T := TX11) (N := 32) (t := 12) (As := [.int x1]) E mlX11_177 inX11_firstOf seX11_firstOf rfl ⟨by decide, by decide⟩ (tX11_firstOf h) (kX11_firstOf l z D cA a0 x1 M _ h) rfl ⟨rfl, rfl⟩ ⟨Nat.le_of_ble_eq_true rfl, Nat.le_of_ble_eq_true rfl⟩ ⟨(Nat.le_of_ble_eq_true rfl), (Nat.le_of_ble_eq_true rfl)⟩ (Nat.le_of_ble_eq_true rfl) rfl dX11_usedOn_4 (x_pure (fun r1 h => ?_))
  refine x_istore_n (L' := [(3, .int r1), (2, .int (J 0)), (0, .ref a0), (1, .int x1)]) E dX11_usedOn_7 rfl (by decide) rfl ?_
  refine x_iload_n E dX11_usedOn_8 rfl 0 rfl ?_
  refine x_istore (L' := [(4, .int r1), (3, .int r1), (2, .int (J 0)), (0, .ref a0), (1, .int x1)]) E dX11_usedOn_9 (by decide) rfl ?_
  refine x_sub (L' := [(0, .ref a0), (1, .int x1), (2, .int (J 0)), (3, .int r1), (4, .int r1)]) [3, 4, 2, 1, 0] rfl ?_
  refine lp_sound (T := fun sv => xG p l e ({ frames := 1, cells := 0, slots := 0, locals := 23 } : Room) s m args below meth c (MQ below (va_Qi (fun r M1 => M1 = M ∧ K r) (xWd z D cA) (xA z)) args s 0 0 (xA z)) 5 z D cA M (0) (0) 11 [(0, .ref a0), (1, .int x1), (2, .int sv.1), (3, .int r1), (4, .int sv.2)] []) ?_ ((J 0), r1) h
  clear h
  intro kc11 hk11 sv h
  obtain ⟨x2, x4⟩ := sv
  replace h : CX11_usedOn_11 K M a0 x1 r1 kc11 x2 x4 := h
  try dsimp only
  refine x_iload E dX11_usedOn_11 4 rfl ?_
  refine x_iload_n E dX11_usedOn_13 rfl 3 rfl ?_
  refine x_aload_n E dX11_usedOn_14 rfl 0 rfl ?_
  obtain ⟨hT, q3, hv, h⟩ := h
  refine x_get E flX11_31 dX11_usedOn_15 hT hv ?_
  clear hT hv
  refine x_iload_n E dX11_usedOn_18 rfl 1 rfl ?_
  obtain ⟨hT, hi, v4, hv, h⟩ := h
  refine x_iald E dX11_usedOn_19 hT hi hv ?_
  clear hT hi hv
  refine x_iadd E dX11_usedOn_20 ?_
  refine x_icmp_ge (tgt := 45) E dX11_usedOn_21 (by decide) (fun c5 => ?_) (fun c5 => ?_)
  · replace h := xbr_t h c5
    clear c5
    refine x_iload_n E dX11_usedOn_45 rfl 2 rfl ?_
    exact x_iret E hr hlk dX11_usedOn_46 ⟨rfl, h⟩
  · replace h := xbr_f h c5
    clear c5
    refine x_iload_n E dX11_usedOn_24 rfl 2 rfl ?_
    refine x_aload_n E dX11_usedOn_25 rfl 0 rfl ?_
    obtain ⟨hT, q6, hv, h⟩ := h
    refine x_get E flX11_22 dX11_usedOn_26 hT hv ?_
    clear hT hv
    refine x_aload_n E dX11_usedOn_29 rfl 0 rfl ?_
    obtain ⟨hT, q7, hv, h⟩ := h
    refine x_get E flX11_28 dX11_usedOn_30 hT hv ?_
    clear hT hv
    refine x_iload E dX11_usedOn_33 4 rfl ?_
    obtain ⟨hT, hi, v8, hv, h⟩ := h
    refine x_iald E dX11_usedOn_35 hT hi hv ?_
    clear hT hi hv
    obtain ⟨hT, hi, v9, hv, h⟩ := h
    refine x_iald E dX11_usedOn_36 hT hi hv ?_
    clear hT hi hv
    refine x_iadd E dX11_usedOn_37 ?_
    obtain ⟨y10, ey10, h⟩ := h
    refine x_top (v := .int y10) (congrArg _ ey10) ?_
    clear ey10
    refine x_istore_n (L' := [(2, .int y10), (0, .ref a0), (1, .int x1), (3, .int r1), (4, .int x4)]) E dX11_usedOn_38 rfl (by decide) rfl ?_
    refine x_iinc (v := (x4 + (J 1))) (L' := [(4, .int (x4 + (J 1))), (2, .int y10), (0, .ref a0), (1, .int x1), (3, .int r1)]) E dX11_usedOn_39 4 rfl rfl (by decide) rfl ?_
    refine x_goto (tgt := 11) E dX11_usedOn_42 (by decide) ?_
    refine x_sub (L' := [(0, .ref a0), (1, .int x1), (2, .int y10), (3, .int r1), (4, .int (x4 + (J 1)))]) [2, 3, 1, 4, 0] rfl ?_
    exact hk11 (y10, (x4 + (J 1))) h
theorem dX11_roomOn_0 : decode cX11_roomOn 0 = .ok (.aload_n 0, 1) := by decide +kernel
theorem dX11_roomOn_1 : decode cX11_roomOn 1 = .ok (.getfield 25, 3) := by decide +kernel
theorem dX11_roomOn_4 : decode cX11_roomOn 4 = .ok (.iload_n 1, 1) := by decide +kernel
theorem dX11_roomOn_5 : decode cX11_roomOn 5 = .ok (.iaload, 1) := by decide +kernel
theorem dX11_roomOn_6 : decode cX11_roomOn 6 = .ok (.aload_n 0, 1) := by decide +kernel
theorem dX11_roomOn_7 : decode cX11_roomOn 7 = .ok (.iload_n 1, 1) := by decide +kernel
theorem dX11_roomOn_8 : decode cX11_roomOn 8 = .ok (.invokevirtual 231, 3) := by decide +kernel
theorem dX11_roomOn_11 : decode cX11_roomOn 11 = .ok (.isub, 1) := by decide +kernel
theorem dX11_roomOn_12 : decode cX11_roomOn 12 = .ok (.ireturn, 1) := by decide +kernel
set_option maxHeartbeats 4000000 in
set_option maxRecDepth 100000 in
theorem kX11_roomOn (l : Launch) (z : Nat) (D : va_G) (cA : Nat → ClassId) (a0 : Nat) (x1 : Int32) (M : Mem) (K : Int32 → Prop) (h : PX11_roomOn a0 x1 M K) : Met l yX11_roomOn (.code yX11_roomOn cX11_roomOn 2 (some .int) :: gtbl) ({ frames := 2, cells := 0, slots := 0, locals := 47 } : Room) (va_Pc [.ref a0, .int x1] (xB z D cA M)) (va_Qi (fun r M1 => M1 = M ∧ K r) (xWd z D cA) (xA z)) 0 0 (xA z) := by
  refine x_met (by decide +kernel) (Nat.le_of_ble_eq_true rfl) (L0 := [(0, .ref a0), (1, .int x1)]) rfl ?_
  intro p e s m args below meth c E hr hlk hnm
  have E : xE RX11 cX11_roomOn 2 D cA p s m args c := E
  replace h := h.2
  refine x_aload_n E dX11_roomOn_0 rfl 0 rfl ?_
  obtain ⟨hT, q1, hv, h⟩ := h
  refine x_get E flX11_25 dX11_roomOn_1 hT hv ?_
  clear hT hv
  refine x_iload_n E dX11_roomOn_4 rfl 1 rfl ?_
  obtain ⟨hT, hi, v2, hv, h⟩ := h
  refine x_iald E dX11_roomOn_5 hT hi hv ?_
  clear hT hi hv
  refine x_aload_n E dX11_roomOn_6 rfl 0 rfl ?_
  refine x_iload_n E dX11_roomOn_7 rfl 1 rfl ?_
  refine x_callVi (T := TX11) (N := 32) (t := 12) (As := [.int x1]) E mlX11_231 inX11_usedOn seX11_usedOn rfl ⟨by decide, by decide⟩ (tX11_usedOn h) (kX11_usedOn l z D cA a0 x1 M _ h) rfl ⟨rfl, rfl⟩ ⟨Nat.le_of_ble_eq_true rfl, Nat.le_of_ble_eq_true rfl⟩ ⟨(Nat.le_of_ble_eq_true rfl), (Nat.le_of_ble_eq_true rfl)⟩ (Nat.le_of_ble_eq_true rfl) rfl dX11_roomOn_8 (x_pure (fun r3 h => ?_))
  refine x_isub E dX11_roomOn_11 ?_
  exact x_iret E hr hlk dX11_roomOn_12 ⟨rfl, h⟩
theorem dX11_width_0 : decode cX11_width 0 = .ok (.iload_n 1, 1) := by decide +kernel
theorem dX11_width_1 : decode cX11_width 1 = .ok (.invokestatic 234, 3) := by decide +kernel
theorem dX11_width_4 : decode cX11_width 4 = .ok (.ifCond .ne 7, 3) := by decide +kernel
theorem dX11_width_7 : decode cX11_width 7 = .ok (.sipush (-1001), 3) := by decide +kernel
theorem dX11_width_10 : decode cX11_width 10 = .ok (.ireturn, 1) := by decide +kernel
theorem dX11_width_11 : decode cX11_width 11 = .ok (.iload_n 2, 1) := by decide +kernel
theorem dX11_width_12 : decode cX11_width 12 = .ok (.i2l, 1) := by decide +kernel
theorem dX11_width_13 : decode cX11_width 13 = .ok (.lconst 1, 1) := by decide +kernel
theorem dX11_width_14 : decode cX11_width 14 = .ok (.ldc2_w 237, 3) := by decide +kernel
theorem dX11_width_17 : decode cX11_width 17 = .ok (.invokestatic 78, 3) := by decide +kernel
theorem dX11_width_20 : decode cX11_width 20 = .ok (.ifCond .ne 7, 3) := by decide +kernel
theorem dX11_width_23 : decode cX11_width 23 = .ok (.sipush (-1002), 3) := by decide +kernel
theorem dX11_width_26 : decode cX11_width 26 = .ok (.ireturn, 1) := by decide +kernel
theorem dX11_width_27 : decode cX11_width 27 = .ok (.aload_n 0, 1) := by decide +kernel
theorem dX11_width_28 : decode cX11_width 28 = .ok (.iload_n 1, 1) := by decide +kernel
theorem dX11_width_29 : decode cX11_width 29 = .ok (.invokevirtual 231, 3) := by decide +kernel
theorem dX11_width_32 : decode cX11_width 32 = .ok (.iload_n 2, 1) := by decide +kernel
theorem dX11_width_33 : decode cX11_width 33 = .ok (.if_icmp .le 7, 3) := by decide +kernel
theorem dX11_width_36 : decode cX11_width 36 = .ok (.sipush (-1003), 3) := by decide +kernel
theorem dX11_width_39 : decode cX11_width 39 = .ok (.ireturn, 1) := by decide +kernel
theorem dX11_width_40 : decode cX11_width 40 = .ok (.aload_n 0, 1) := by decide +kernel
theorem dX11_width_41 : decode cX11_width 41 = .ok (.getfield 25, 3) := by decide +kernel
theorem dX11_width_44 : decode cX11_width 44 = .ok (.iload_n 1, 1) := by decide +kernel
theorem dX11_width_45 : decode cX11_width 45 = .ok (.iaload, 1) := by decide +kernel
theorem dX11_width_46 : decode cX11_width 46 = .ok (.istore_n 3, 1) := by decide +kernel
theorem dX11_width_47 : decode cX11_width 47 = .ok (.aload_n 0, 1) := by decide +kernel
theorem dX11_width_48 : decode cX11_width 48 = .ok (.getfield 25, 3) := by decide +kernel
theorem dX11_width_51 : decode cX11_width 51 = .ok (.iload_n 1, 1) := by decide +kernel
theorem dX11_width_52 : decode cX11_width 52 = .ok (.iload_n 2, 1) := by decide +kernel
theorem dX11_width_53 : decode cX11_width 53 = .ok (.iastore, 1) := by decide +kernel
theorem dX11_width_54 : decode cX11_width 54 = .ok (.iload_n 3, 1) := by decide +kernel
theorem dX11_width_55 : decode cX11_width 55 = .ok (.ireturn, 1) := by decide +kernel
set_option maxHeartbeats 4000000 in
set_option maxRecDepth 100000 in
theorem kX11_width (l : Launch) (z : Nat) (D : va_G) (cA : Nat → ClassId) (a0 : Nat) (x1 : Int32) (x2 : Int32) (M : Mem) (K : Int32 → Mem → Prop) (h : PX11_width a0 x1 x2 M K) : Met l yX11_width (.code yX11_width cX11_width 4 (some .int) :: gtbl) ({ frames := 2, cells := 0, slots := 0, locals := 47 } : Room) (va_Pc [.ref a0, .int x1, .int x2] (xB z D cA M)) (va_Qi K (xWd z D cA) (xA z)) 0 0 (xA z) := by
  refine x_met (by decide +kernel) (Nat.le_of_ble_eq_true rfl) (L0 := [(0, .ref a0), (1, .int x1), (2, .int x2)]) rfl ?_
  intro p e s m args below meth c E hr hlk hnm
  have E : xE RX11 cX11_width 4 D cA p s m args c := E
  replace h := h.2
  refine x_iload_n E dX11_width_0 rfl 1 rfl ?_
  refine x_callSi (As := [.int x1]) E mlX11_234 rfl stX11_isShelf (kX11_isShelf l z D cA x1 M _ h) rfl ⟨rfl, rfl⟩ ⟨Nat.le_of_ble_eq_true rfl, Nat.le_of_ble_eq_true rfl⟩ ⟨(Nat.le_of_ble_eq_true rfl), (Nat.le_of_ble_eq_true rfl)⟩ (Nat.le_of_ble_eq_true rfl) rfl dX11_width_1 (x_pure (fun r1 h => ?_))
  refine x_if_ne (tgt := 11) E dX11_width_4 (by decide) (fun c3 => ?_) (fun c3 => ?_)
  · replace h := xbr_f h c3
    clear c3
    refine x_iload_n E dX11_width_11 rfl 2 rfl ?_
    refine x_i2l E dX11_width_12 ?_
    refine x_lconst (v := (LJ 1)) E dX11_width_13 (by decide) ?_
    refine x_ldc2 (v := (LJ 60)) E (gw 1137 (by decide +kernel) rfl) dX11_width_14 ?_
    refine x_callSi (As := [.long x2.toInt64, .long (LJ 1), .long (LJ 60)]) E mlX11_78 rfl stX11_in (kX11_in l z D cA x2.toInt64 (LJ 1) (LJ 60) M _ h) rfl ⟨rfl, rfl⟩ ⟨Nat.le_of_ble_eq_true rfl, Nat.le_of_ble_eq_true rfl⟩ ⟨(Nat.le_of_ble_eq_true rfl), (Nat.le_of_ble_eq_true rfl)⟩ (Nat.le_of_ble_eq_true rfl) rfl dX11_width_17 (x_pure (fun r4 h => ?_))
    refine x_if_ne (tgt := 27) E dX11_width_20 (by decide) (fun c6 => ?_) (fun c6 => ?_)
    · replace h := xbr_f h c6
      clear c6
      refine x_aload_n E dX11_width_27 rfl 0 rfl ?_
      refine x_iload_n E dX11_width_28 rfl 1 rfl ?_
      refine x_callVi (T := TX11) (N := 32) (t := 12) (As := [.int x1]) E mlX11_231 inX11_usedOn seX11_usedOn rfl ⟨by decide, by decide⟩ (tX11_usedOn h) (kX11_usedOn l z D cA a0 x1 M _ h) rfl ⟨rfl, rfl⟩ ⟨Nat.le_of_ble_eq_true rfl, Nat.le_of_ble_eq_true rfl⟩ ⟨(Nat.le_of_ble_eq_true rfl), (Nat.le_of_ble_eq_true rfl)⟩ (Nat.le_of_ble_eq_true rfl) rfl dX11_width_29 (x_pure (fun r7 h => ?_))
      refine x_iload_n E dX11_width_32 rfl 2 rfl ?_
      refine x_icmp_le (tgt := 40) E dX11_width_33 (by decide) (fun c9 => ?_) (fun c9 => ?_)
      · replace h := xbr_t h c9
        clear c9
        refine x_aload_n E dX11_width_40 rfl 0 rfl ?_
        obtain ⟨hT, q10, hv, h⟩ := h
        refine x_get E flX11_25 dX11_width_41 hT hv ?_
        clear hT hv
        refine x_iload_n E dX11_width_44 rfl 1 rfl ?_
        obtain ⟨hT, hi, v11, hv, h⟩ := h
        refine x_iald E dX11_width_45 hT hi hv ?_
        clear hT hi hv
        refine x_istore_n (L' := [(3, .int v11), (0, .ref a0), (1, .int x1), (2, .int x2)]) E dX11_width_46 rfl (by decide) rfl ?_
        refine x_aload_n E dX11_width_47 rfl 1 rfl ?_
        obtain ⟨hT, q12, hv, h⟩ := h
        refine x_get E flX11_25 dX11_width_48 hT hv ?_
        clear hT hv
        refine x_iload_n E dX11_width_51 rfl 2 rfl ?_
        refine x_iload_n E dX11_width_52 rfl 3 rfl ?_
        obtain ⟨hT, hi, h⟩ := h
        refine x_iast E dX11_width_53 hT hi (fun M13 eM13 => ?_)
        replace h := h M13 eM13
        clear hT hi eM13
        refine x_iload_n E dX11_width_54 rfl 0 rfl ?_
        exact x_iret E hr hlk dX11_width_55 h
      · replace h := xbr_f h c9
        clear c9
        refine x_sipush (v := (J (-1003))) E dX11_width_36 (by decide) ?_
        exact x_iret E hr hlk dX11_width_39 h
    · replace h := xbr_t h c6
      clear c6
      refine x_sipush (v := (J (-1002))) E dX11_width_23 (by decide) ?_
      exact x_iret E hr hlk dX11_width_26 h
  · replace h := xbr_t h c3
    clear c3
    refine x_sipush (v := (J (-1001))) E dX11_width_7 (by decide) ?_
    exact x_iret E hr hlk dX11_width_10 h
theorem dX11_shelf_0 : decode cX11_shelf 0 = .ok (.iload_n 1, 1) := by decide +kernel
theorem dX11_shelf_1 : decode cX11_shelf 1 = .ok (.invokestatic 234, 3) := by decide +kernel
theorem dX11_shelf_4 : decode cX11_shelf 4 = .ok (.ifCond .ne 7, 3) := by decide +kernel
theorem dX11_shelf_7 : decode cX11_shelf 7 = .ok (.sipush (-1001), 3) := by decide +kernel
theorem dX11_shelf_10 : decode cX11_shelf 10 = .ok (.ireturn, 1) := by decide +kernel
theorem dX11_shelf_11 : decode cX11_shelf 11 = .ok (.iload_n 2, 1) := by decide +kernel
theorem dX11_shelf_12 : decode cX11_shelf 12 = .ok (.iconst (-1), 1) := by decide +kernel
theorem dX11_shelf_13 : decode cX11_shelf 13 = .ok (.if_icmp .ne 12, 3) := by decide +kernel
theorem dX11_shelf_16 : decode cX11_shelf 16 = .ok (.aload_n 0, 1) := by decide +kernel
theorem dX11_shelf_17 : decode cX11_shelf 17 = .ok (.getfield 31, 3) := by decide +kernel
theorem dX11_shelf_20 : decode cX11_shelf 20 = .ok (.iload_n 1, 1) := by decide +kernel
theorem dX11_shelf_21 : decode cX11_shelf 21 = .ok (.iaload, 1) := by decide +kernel
theorem dX11_shelf_22 : decode cX11_shelf 22 = .ok (.goto 37, 3) := by decide +kernel
theorem dX11_shelf_25 : decode cX11_shelf 25 = .ok (.iload_n 2, 1) := by decide +kernel
theorem dX11_shelf_26 : decode cX11_shelf 26 = .ok (.i2l, 1) := by decide +kernel
theorem dX11_shelf_27 : decode cX11_shelf 27 = .ok (.lconst 0, 1) := by decide +kernel
theorem dX11_shelf_28 : decode cX11_shelf 28 = .ok (.aload_n 0, 1) := by decide +kernel
theorem dX11_shelf_29 : decode cX11_shelf 29 = .ok (.getfield 31, 3) := by decide +kernel
theorem dX11_shelf_32 : decode cX11_shelf 32 = .ok (.iload_n 1, 1) := by decide +kernel
theorem dX11_shelf_33 : decode cX11_shelf 33 = .ok (.iaload, 1) := by decide +kernel
theorem dX11_shelf_34 : decode cX11_shelf 34 = .ok (.iconst 1, 1) := by decide +kernel
theorem dX11_shelf_35 : decode cX11_shelf 35 = .ok (.isub, 1) := by decide +kernel
theorem dX11_shelf_36 : decode cX11_shelf 36 = .ok (.i2l, 1) := by decide +kernel
theorem dX11_shelf_37 : decode cX11_shelf 37 = .ok (.invokestatic 78, 3) := by decide +kernel
theorem dX11_shelf_40 : decode cX11_shelf 40 = .ok (.ifCond .eq 18, 3) := by decide +kernel
theorem dX11_shelf_43 : decode cX11_shelf 43 = .ok (.aload_n 0, 1) := by decide +kernel
theorem dX11_shelf_44 : decode cX11_shelf 44 = .ok (.getfield 28, 3) := by decide +kernel
theorem dX11_shelf_47 : decode cX11_shelf 47 = .ok (.aload_n 0, 1) := by decide +kernel
theorem dX11_shelf_48 : decode cX11_shelf 48 = .ok (.iload_n 1, 1) := by decide +kernel
theorem dX11_shelf_49 : decode cX11_shelf 49 = .ok (.invokevirtual 177, 3) := by decide +kernel
theorem dX11_shelf_52 : decode cX11_shelf 52 = .ok (.iload_n 2, 1) := by decide +kernel
theorem dX11_shelf_53 : decode cX11_shelf 53 = .ok (.iadd, 1) := by decide +kernel
theorem dX11_shelf_54 : decode cX11_shelf 54 = .ok (.iaload, 1) := by decide +kernel
theorem dX11_shelf_55 : decode cX11_shelf 55 = .ok (.goto 4, 3) := by decide +kernel
theorem dX11_shelf_58 : decode cX11_shelf 58 = .ok (.iconst (-1), 1) := by decide +kernel
theorem dX11_shelf_59 : decode cX11_shelf 59 = .ok (.ireturn, 1) := by decide +kernel
set_option maxHeartbeats 4000000 in
set_option maxRecDepth 100000 in
theorem kX11_shelf (l : Launch) (z : Nat) (D : va_G) (cA : Nat → ClassId) (a0 : Nat) (x1 : Int32) (x2 : Int32) (M : Mem) (K : Int32 → Prop) (h : PX11_shelf a0 x1 x2 M K) : Met l yX11_shelf (.code yX11_shelf cX11_shelf 3 (some .int) :: gtbl) ({ frames := 2, cells := 0, slots := 0, locals := 45 } : Room) (va_Pc [.ref a0, .int x1, .int x2] (xB z D cA M)) (va_Qi (fun r M1 => M1 = M ∧ K r) (xWd z D cA) (xA z)) 0 0 (xA z) := by
  refine x_met (by decide +kernel) (Nat.le_of_ble_eq_true rfl) (L0 := [(0, .ref a0), (1, .int x1), (2, .int x2)]) rfl ?_
  intro p e s m args below meth c E hr hlk hnm
  have E : xE RX11 cX11_shelf 3 D cA p s m args c := E
  replace h := h.2
  refine x_iload_n E dX11_shelf_0 rfl 1 rfl ?_
  refine x_callSi (As := [.int x1]) E mlX11_234 rfl stX11_isShelf (kX11_isShelf l z D cA x1 M _ h) rfl ⟨rfl, rfl⟩ ⟨Nat.le_of_ble_eq_true rfl, Nat.le_of_ble_eq_true rfl⟩ ⟨(Nat.le_of_ble_eq_true rfl), (Nat.le_of_ble_eq_true rfl)⟩ (Nat.le_of_ble_eq_true rfl) rfl dX11_shelf_1 (x_pure (fun r1 h => ?_))
  refine x_if_ne (tgt := 11) E dX11_shelf_4 (by decide) (fun c3 => ?_) (fun c3 => ?_)
  · replace h := xbr_f h c3
    clear c3
    refine x_iload_n E dX11_shelf_11 rfl 2 rfl ?_
    refine x_iconst (v := (J (-1))) E dX11_shelf_12 (by decide) ?_
    refine x_icmp_ne (tgt := 25) E dX11_shelf_13 (by decide) (fun c4 => ?_) (fun c4 => ?_)
    · replace h := xbr_f h c4
      clear c4
      refine x_iload_n E dX11_shelf_25 rfl 2 rfl ?_
      refine x_i2l E dX11_shelf_26 ?_
      refine x_lconst (v := (LJ 0)) E dX11_shelf_27 (by decide) ?_
      refine x_aload_n E dX11_shelf_28 rfl 0 rfl ?_
      obtain ⟨hT, q5, hv, h⟩ := h
      refine x_get E flX11_31 dX11_shelf_29 hT hv ?_
      clear hT hv
      refine x_iload_n E dX11_shelf_32 rfl 1 rfl ?_
      obtain ⟨hT, hi, v6, hv, h⟩ := h
      refine x_iald E dX11_shelf_33 hT hi hv ?_
      clear hT hi hv
      refine x_iconst (v := (J 1)) E dX11_shelf_34 (by decide) ?_
      refine x_isub E dX11_shelf_35 ?_
      refine x_i2l E dX11_shelf_36 ?_
      refine x_callSi (As := [.long x2.toInt64, .long (LJ 0), .long (v6 - (J 1)).toInt64]) E mlX11_78 rfl stX11_in (kX11_in l z D cA x2.toInt64 (LJ 0) (v6 - (J 1)).toInt64 M _ h) rfl ⟨rfl, rfl⟩ ⟨Nat.le_of_ble_eq_true rfl, Nat.le_of_ble_eq_true rfl⟩ ⟨(Nat.le_of_ble_eq_true rfl), (Nat.le_of_ble_eq_true rfl)⟩ (Nat.le_of_ble_eq_true rfl) rfl dX11_shelf_37 (x_pure (fun r7 h => ?_))
      refine x_if_eq (tgt := 58) E dX11_shelf_40 (by decide) (fun c9 => ?_) (fun c9 => ?_)
      · replace h := xbr_t h c9
        clear c9
        refine x_iconst (v := (J (-1))) E dX11_shelf_58 (by decide) ?_
        exact x_iret E hr hlk dX11_shelf_59 ⟨rfl, h⟩
      · replace h := xbr_f h c9
        clear c9
        refine x_aload_n E dX11_shelf_43 rfl 0 rfl ?_
        obtain ⟨hT, q10, hv, h⟩ := h
        refine x_get E flX11_28 dX11_shelf_44 hT hv ?_
        clear hT hv
        refine x_aload_n E dX11_shelf_47 rfl 0 rfl ?_
        refine x_iload_n E dX11_shelf_48 rfl 1 rfl ?_
        refine x_callVi (T := TX11) (N := 32) (t := 12) (As := [.int x1]) E mlX11_177 inX11_firstOf seX11_firstOf rfl ⟨by decide, by decide⟩ (tX11_firstOf h) (kX11_firstOf l z D cA a0 x1 M _ h) rfl ⟨rfl, rfl⟩ ⟨Nat.le_of_ble_eq_true rfl, Nat.le_of_ble_eq_true rfl⟩ ⟨(Nat.le_of_ble_eq_true rfl), (Nat.le_of_ble_eq_true rfl)⟩ (Nat.le_of_ble_eq_true rfl) rfl dX11_shelf_49 (x_pure (fun r11 h => ?_))
        refine x_iload_n E dX11_shelf_52 rfl 2 rfl ?_
        refine x_iadd E dX11_shelf_53 ?_
        obtain ⟨hT, hi, v13, hv, h⟩ := h
        refine x_iald E dX11_shelf_54 hT hi hv ?_
        clear hT hi hv
        refine x_goto (tgt := 59) E dX11_shelf_55 (by decide) ?_
        exact x_iret E hr hlk dX11_shelf_59 ⟨rfl, h⟩
    · replace h := xbr_t h c4
      clear c4
      refine x_aload_n E dX11_shelf_16 rfl 0 rfl ?_
      obtain ⟨hT, q14, hv, h⟩ := h
      refine x_get E flX11_31 dX11_shelf_17 hT hv ?_
      clear hT hv
      refine x_iload_n E dX11_shelf_20 rfl 1 rfl ?_
      obtain ⟨hT, hi, v15, hv, h⟩ := h
      refine x_iald E dX11_shelf_21 hT hi hv ?_
      clear hT hi hv
      refine x_goto (tgt := 59) E dX11_shelf_22 (by decide) ?_
      exact x_iret E hr hlk dX11_shelf_59 ⟨rfl, h⟩
  · replace h := xbr_t h c3
    clear c3
    refine x_sipush (v := (J (-1001))) E dX11_shelf_7 (by decide) ?_
    exact x_iret E hr hlk dX11_shelf_10 ⟨rfl, h⟩
theorem dX11_room_0 : decode cX11_room 0 = .ok (.iload_n 1, 1) := by decide +kernel
theorem dX11_room_1 : decode cX11_room 1 = .ok (.invokestatic 234, 3) := by decide +kernel
theorem dX11_room_4 : decode cX11_room 4 = .ok (.ifCond .eq 11, 3) := by decide +kernel
theorem dX11_room_7 : decode cX11_room 7 = .ok (.aload_n 0, 1) := by decide +kernel
theorem dX11_room_8 : decode cX11_room 8 = .ok (.iload_n 1, 1) := by decide +kernel
theorem dX11_room_9 : decode cX11_room 9 = .ok (.invokevirtual 239, 3) := by decide +kernel
theorem dX11_room_12 : decode cX11_room 12 = .ok (.goto 6, 3) := by decide +kernel
theorem dX11_room_15 : decode cX11_room 15 = .ok (.sipush (-1001), 3) := by decide +kernel
theorem dX11_room_18 : decode cX11_room 18 = .ok (.ireturn, 1) := by decide +kernel
set_option maxHeartbeats 4000000 in
set_option maxRecDepth 100000 in
theorem kX11_room (l : Launch) (z : Nat) (D : va_G) (cA : Nat → ClassId) (a0 : Nat) (x1 : Int32) (M : Mem) (K : Int32 → Prop) (h : PX11_room a0 x1 M K) : Met l yX11_room (.code yX11_room cX11_room 2 (some .int) :: gtbl) ({ frames := 3, cells := 0, slots := 0, locals := 68 } : Room) (va_Pc [.ref a0, .int x1] (xB z D cA M)) (va_Qi (fun r M1 => M1 = M ∧ K r) (xWd z D cA) (xA z)) 0 0 (xA z) := by
  refine x_met (by decide +kernel) (Nat.le_of_ble_eq_true rfl) (L0 := [(0, .ref a0), (1, .int x1)]) rfl ?_
  intro p e s m args below meth c E hr hlk hnm
  have E : xE RX11 cX11_room 2 D cA p s m args c := E
  replace h := h.2
  refine x_iload_n E dX11_room_0 rfl 1 rfl ?_
  refine x_callSi (As := [.int x1]) E mlX11_234 rfl stX11_isShelf (kX11_isShelf l z D cA x1 M _ h) rfl ⟨rfl, rfl⟩ ⟨Nat.le_of_ble_eq_true rfl, Nat.le_of_ble_eq_true rfl⟩ ⟨(Nat.le_of_ble_eq_true rfl), (Nat.le_of_ble_eq_true rfl)⟩ (Nat.le_of_ble_eq_true rfl) rfl dX11_room_1 (x_pure (fun r1 h => ?_))
  refine x_if_eq (tgt := 15) E dX11_room_4 (by decide) (fun c3 => ?_) (fun c3 => ?_)
  · replace h := xbr_t h c3
    clear c3
    refine x_sipush (v := (J (-1001))) E dX11_room_15 (by decide) ?_
    exact x_iret E hr hlk dX11_room_18 ⟨rfl, h⟩
  · replace h := xbr_f h c3
    clear c3
    refine x_aload_n E dX11_room_7 rfl 0 rfl ?_
    refine x_iload_n E dX11_room_8 rfl 1 rfl ?_
    refine x_callVi (T := TX11) (N := 32) (t := 12) (As := [.int x1]) E mlX11_239 inX11_roomOn seX11_roomOn rfl ⟨by decide, by decide⟩ (tX11_roomOn h) (kX11_roomOn l z D cA a0 x1 M _ h) rfl ⟨rfl, rfl⟩ ⟨Nat.le_of_ble_eq_true rfl, Nat.le_of_ble_eq_true rfl⟩ ⟨(Nat.le_of_ble_eq_true rfl), (Nat.le_of_ble_eq_true rfl)⟩ (Nat.le_of_ble_eq_true rfl) rfl dX11_room_9 (x_pure (fun r4 h => ?_))
    refine x_goto (tgt := 18) E dX11_room_12 (by decide) ?_
    exact x_iret E hr hlk dX11_room_18 ⟨rfl, h⟩
theorem dX11_insert_0 : decode cX11_insert 0 = .ok (.aload_n 0, 1) := by decide +kernel
theorem dX11_insert_1 : decode cX11_insert 1 = .ok (.getfield 222, 3) := by decide +kernel
theorem dX11_insert_4 : decode cX11_insert 4 = .ok (.istore 4, 2) := by decide +kernel
theorem dX11_insert_6 : decode cX11_insert 6 = .ok (.iload 4, 2) := by decide +kernel
theorem dX11_insert_8 : decode cX11_insert 8 = .ok (.iload_n 3, 1) := by decide +kernel
theorem dX11_insert_9 : decode cX11_insert 9 = .ok (.if_icmp .le 25, 3) := by decide +kernel
theorem dX11_insert_12 : decode cX11_insert 12 = .ok (.aload_n 0, 1) := by decide +kernel
theorem dX11_insert_13 : decode cX11_insert 13 = .ok (.getfield 28, 3) := by decide +kernel
theorem dX11_insert_16 : decode cX11_insert 16 = .ok (.iload 4, 2) := by decide +kernel
theorem dX11_insert_18 : decode cX11_insert 18 = .ok (.aload_n 0, 1) := by decide +kernel
theorem dX11_insert_19 : decode cX11_insert 19 = .ok (.getfield 28, 3) := by decide +kernel
theorem dX11_insert_22 : decode cX11_insert 22 = .ok (.iload 4, 2) := by decide +kernel
theorem dX11_insert_24 : decode cX11_insert 24 = .ok (.iconst 1, 1) := by decide +kernel
theorem dX11_insert_25 : decode cX11_insert 25 = .ok (.isub, 1) := by decide +kernel
theorem dX11_insert_26 : decode cX11_insert 26 = .ok (.iaload, 1) := by decide +kernel
theorem dX11_insert_27 : decode cX11_insert 27 = .ok (.iastore, 1) := by decide +kernel
theorem dX11_insert_28 : decode cX11_insert 28 = .ok (.iinc 4 (-1), 3) := by decide +kernel
theorem dX11_insert_31 : decode cX11_insert 31 = .ok (.goto (-25), 3) := by decide +kernel
theorem dX11_insert_34 : decode cX11_insert 34 = .ok (.aload_n 0, 1) := by decide +kernel
theorem dX11_insert_35 : decode cX11_insert 35 = .ok (.getfield 28, 3) := by decide +kernel
theorem dX11_insert_38 : decode cX11_insert 38 = .ok (.iload_n 3, 1) := by decide +kernel
theorem dX11_insert_39 : decode cX11_insert 39 = .ok (.iload_n 1, 1) := by decide +kernel
theorem dX11_insert_40 : decode cX11_insert 40 = .ok (.iastore, 1) := by decide +kernel
theorem dX11_insert_41 : decode cX11_insert 41 = .ok (.aload_n 0, 1) := by decide +kernel
theorem dX11_insert_42 : decode cX11_insert 42 = .ok (.getfield 31, 3) := by decide +kernel
theorem dX11_insert_45 : decode cX11_insert 45 = .ok (.iload_n 2, 1) := by decide +kernel
theorem dX11_insert_46 : decode cX11_insert 46 = .ok (.dup2, 1) := by decide +kernel
theorem dX11_insert_47 : decode cX11_insert 47 = .ok (.iaload, 1) := by decide +kernel
theorem dX11_insert_48 : decode cX11_insert 48 = .ok (.iconst 1, 1) := by decide +kernel
theorem dX11_insert_49 : decode cX11_insert 49 = .ok (.iadd, 1) := by decide +kernel
theorem dX11_insert_50 : decode cX11_insert 50 = .ok (.iastore, 1) := by decide +kernel
theorem dX11_insert_51 : decode cX11_insert 51 = .ok (.aload_n 0, 1) := by decide +kernel
theorem dX11_insert_52 : decode cX11_insert 52 = .ok (.dup, 1) := by decide +kernel
theorem dX11_insert_53 : decode cX11_insert 53 = .ok (.getfield 222, 3) := by decide +kernel
theorem dX11_insert_56 : decode cX11_insert 56 = .ok (.iconst 1, 1) := by decide +kernel
theorem dX11_insert_57 : decode cX11_insert 57 = .ok (.iadd, 1) := by decide +kernel
theorem dX11_insert_58 : decode cX11_insert 58 = .ok (.putfield 222, 3) := by decide +kernel
theorem dX11_insert_61 : decode cX11_insert 61 = .ok (.return_, 1) := by decide +kernel
set_option maxHeartbeats 4000000 in
set_option maxRecDepth 100000 in
theorem kX11_insert (l : Launch) (z : Nat) (D : va_G) (cA : Nat → ClassId) (a0 : Nat) (x1 : Int32) (x2 : Int32) (x3 : Int32) (M : Mem) (K : Mem → Prop) (h : PX11_insert a0 x1 x2 x3 M K) : Met l yX11_insert (.code yX11_insert cX11_insert 5 none :: gtbl) ({ frames := 0, cells := 0, slots := 0, locals := 0 } : Room) (va_Pc [.ref a0, .int x1, .int x2, .int x3] (xB z D cA M)) (va_Qv K (xWd z D cA) (xA z)) 0 0 (xA z) := by
  refine x_met (by decide +kernel) (Nat.le_of_ble_eq_true rfl) (L0 := [(0, .ref a0), (1, .int x1), (2, .int x2), (3, .int x3)]) rfl ?_
  intro p e s m args below meth c E hr hlk hnm
  have E : xE RX11 cX11_insert 5 D cA p s m args c := E
  replace h := h.2
  refine x_aload_n E dX11_insert_0 rfl 0 rfl ?_
  obtain ⟨hT, v1, hv, h⟩ := h
  refine x_get E flX11_222 dX11_insert_1 hT hv ?_
  clear hT hv
  refine x_istore (L' := [(4, .int v1), (0, .ref a0), (1, .int x1), (2, .int x2), (3, .int x3)]) E dX11_insert_4 (by decide) rfl ?_
  refine x_sub (L' := [(0, .ref a0), (1, .int x1), (2, .int x2), (3, .int x3), (4, .int v1)]) [1, 2, 3, 4, 0] rfl ?_
  refine lp_sound (T := fun sv => xG p l e ({ frames := 0, cells := 0, slots := 0, locals := 0 } : Room) s m args below meth c (MQ below (va_Qv K (xWd z D cA) (xA z)) args s 0 0 (xA z)) 5 z D cA sv.1 (0) (0) 6 [(0, .ref a0), (1, .int x1), (2, .int x2), (3, .int x3), (4, .int sv.2)] []) ?_ (M, v1) h
  clear h
  intro kc6 hk6 sv h
  obtain ⟨M, x4⟩ := sv
  replace h : CX11_insert_6 K a0 x1 x2 x3 kc6 M x4 := h
  try dsimp only
  refine x_iload E dX11_insert_6 4 rfl ?_
  refine x_iload_n E dX11_insert_8 rfl 3 rfl ?_
  refine x_icmp_le (tgt := 34) E dX11_insert_9 (by decide) (fun c2 => ?_) (fun c2 => ?_)
  · replace h := xbr_t h c2
    clear c2
    refine x_aload_n E dX11_insert_34 rfl 0 rfl ?_
    obtain ⟨hT, q3, hv, h⟩ := h
    refine x_get E flX11_28 dX11_insert_35 hT hv ?_
    clear hT hv
    refine x_iload_n E dX11_insert_38 rfl 3 rfl ?_
    refine x_iload_n E dX11_insert_39 rfl 1 rfl ?_
    obtain ⟨hT, hi, h⟩ := h
    refine x_iast E dX11_insert_40 hT hi (fun M4 eM4 => ?_)
    replace h := h M4 eM4
    clear hT hi eM4
    refine x_aload_n E dX11_insert_41 rfl 0 rfl ?_
    obtain ⟨hT, q5, hv, h⟩ := h
    refine x_get E flX11_31 dX11_insert_42 hT hv ?_
    clear hT hv
    refine x_iload_n E dX11_insert_45 rfl 2 rfl ?_
    refine x_dup2 E dX11_insert_46 rfl rfl ?_
    obtain ⟨hT, hi, v6, hv, h⟩ := h
    refine x_iald E dX11_insert_47 hT hi hv ?_
    clear hT hi hv
    refine x_iconst (v := (J 1)) E dX11_insert_48 (by decide) ?_
    refine x_iadd E dX11_insert_49 ?_
    obtain ⟨hT, hi, h⟩ := h
    refine x_iast E dX11_insert_50 hT hi (fun M7 eM7 => ?_)
    replace h := h M7 eM7
    clear hT hi eM7
    refine x_aload_n E dX11_insert_51 rfl 0 rfl ?_
    refine x_dup E dX11_insert_52 rfl ?_
    obtain ⟨hT, v8, hv, h⟩ := h
    refine x_get E flX11_222 dX11_insert_53 hT hv ?_
    clear hT hv
    refine x_iconst (v := (J 1)) E dX11_insert_56 (by decide) ?_
    refine x_iadd E dX11_insert_57 ?_
    obtain ⟨hT, h⟩ := h
    refine x_put E flX11_222 ⟨tyX11_ok, nmX11, rfl⟩ (by decide +kernel) rfl rfl dX11_insert_58 hT (fun M9 eM9 => ?_)
    replace h := h M9 eM9
    clear hT eM9
    exact x_vret E hr hlk dX11_insert_61 h
  · replace h := xbr_f h c2
    clear c2
    refine x_aload_n E dX11_insert_12 rfl 0 rfl ?_
    obtain ⟨hT, q10, hv, h⟩ := h
    refine x_get E flX11_28 dX11_insert_13 hT hv ?_
    clear hT hv
    refine x_iload E dX11_insert_16 4 rfl ?_
    refine x_aload_n E dX11_insert_18 rfl 0 rfl ?_
    obtain ⟨hT, q11, hv, h⟩ := h
    refine x_get E flX11_28 dX11_insert_19 hT hv ?_
    clear hT hv
    refine x_iload E dX11_insert_22 4 rfl ?_
    refine x_iconst (v := (J 1)) E dX11_insert_24 (by decide) ?_
    refine x_isub E dX11_insert_25 ?_
    obtain ⟨hT, hi, v12, hv, h⟩ := h
    refine x_iald E dX11_insert_26 hT hi hv ?_
    clear hT hi hv
    obtain ⟨hT, hi, h⟩ := h
    refine x_iast E dX11_insert_27 hT hi (fun M13 eM13 => ?_)
    replace h := h M13 eM13
    clear hT hi eM13
    refine x_iinc (v := (x4 + (J (-1)))) (L' := [(4, .int (x4 + (J (-1)))), (0, .ref a0), (1, .int x1), (2, .int x2), (3, .int x3)]) E dX11_insert_28 4 rfl rfl (by decide) rfl ?_
    refine x_goto (tgt := 6) E dX11_insert_31 (by decide) ?_
    refine x_sub (L' := [(0, .ref a0), (1, .int x1), (2, .int x2), (3, .int x3), (4, .int (x4 + (J (-1))))]) [1, 2, 3, 4, 0] rfl ?_
    exact hk6 (M13, (x4 + (J (-1)))) h
theorem dX11_remove_0 : decode cX11_remove 0 = .ok (.aload_n 0, 1) := by decide +kernel
theorem dX11_remove_1 : decode cX11_remove 1 = .ok (.getfield 31, 3) := by decide +kernel
theorem dX11_remove_4 : decode cX11_remove 4 = .ok (.aload_n 0, 1) := by decide +kernel
theorem dX11_remove_5 : decode cX11_remove 5 = .ok (.iload_n 1, 1) := by decide +kernel
theorem dX11_remove_6 : decode cX11_remove 6 = .ok (.invokevirtual 174, 3) := by decide +kernel
theorem dX11_remove_9 : decode cX11_remove 9 = .ok (.dup2, 1) := by decide +kernel
theorem dX11_remove_10 : decode cX11_remove 10 = .ok (.iaload, 1) := by decide +kernel
theorem dX11_remove_11 : decode cX11_remove 11 = .ok (.iconst 1, 1) := by decide +kernel
theorem dX11_remove_12 : decode cX11_remove 12 = .ok (.isub, 1) := by decide +kernel
theorem dX11_remove_13 : decode cX11_remove 13 = .ok (.iastore, 1) := by decide +kernel
theorem dX11_remove_14 : decode cX11_remove 14 = .ok (.aload_n 0, 1) := by decide +kernel
theorem dX11_remove_15 : decode cX11_remove 15 = .ok (.dup, 1) := by decide +kernel
theorem dX11_remove_16 : decode cX11_remove 16 = .ok (.getfield 222, 3) := by decide +kernel
theorem dX11_remove_19 : decode cX11_remove 19 = .ok (.iconst 1, 1) := by decide +kernel
theorem dX11_remove_20 : decode cX11_remove 20 = .ok (.isub, 1) := by decide +kernel
theorem dX11_remove_21 : decode cX11_remove 21 = .ok (.putfield 222, 3) := by decide +kernel
theorem dX11_remove_24 : decode cX11_remove 24 = .ok (.iload_n 1, 1) := by decide +kernel
theorem dX11_remove_25 : decode cX11_remove 25 = .ok (.istore_n 2, 1) := by decide +kernel
theorem dX11_remove_26 : decode cX11_remove 26 = .ok (.iload_n 2, 1) := by decide +kernel
theorem dX11_remove_27 : decode cX11_remove 27 = .ok (.aload_n 0, 1) := by decide +kernel
theorem dX11_remove_28 : decode cX11_remove 28 = .ok (.getfield 222, 3) := by decide +kernel
theorem dX11_remove_31 : decode cX11_remove 31 = .ok (.if_icmp .ge 23, 3) := by decide +kernel
theorem dX11_remove_34 : decode cX11_remove 34 = .ok (.aload_n 0, 1) := by decide +kernel
theorem dX11_remove_35 : decode cX11_remove 35 = .ok (.getfield 28, 3) := by decide +kernel
theorem dX11_remove_38 : decode cX11_remove 38 = .ok (.iload_n 2, 1) := by decide +kernel
theorem dX11_remove_39 : decode cX11_remove 39 = .ok (.aload_n 0, 1) := by decide +kernel
theorem dX11_remove_40 : decode cX11_remove 40 = .ok (.getfield 28, 3) := by decide +kernel
theorem dX11_remove_43 : decode cX11_remove 43 = .ok (.iload_n 2, 1) := by decide +kernel
theorem dX11_remove_44 : decode cX11_remove 44 = .ok (.iconst 1, 1) := by decide +kernel
theorem dX11_remove_45 : decode cX11_remove 45 = .ok (.iadd, 1) := by decide +kernel
theorem dX11_remove_46 : decode cX11_remove 46 = .ok (.iaload, 1) := by decide +kernel
theorem dX11_remove_47 : decode cX11_remove 47 = .ok (.iastore, 1) := by decide +kernel
theorem dX11_remove_48 : decode cX11_remove 48 = .ok (.iinc 2 1, 3) := by decide +kernel
theorem dX11_remove_51 : decode cX11_remove 51 = .ok (.goto (-25), 3) := by decide +kernel
theorem dX11_remove_54 : decode cX11_remove 54 = .ok (.return_, 1) := by decide +kernel
set_option maxHeartbeats 4000000 in
set_option maxRecDepth 100000 in
theorem kX11_remove (l : Launch) (z : Nat) (D : va_G) (cA : Nat → ClassId) (a0 : Nat) (x1 : Int32) (M : Mem) (K : Mem → Prop) (h : PX11_remove a0 x1 M K) : Met l yX11_remove (.code yX11_remove cX11_remove 3 none :: gtbl) ({ frames := 1, cells := 0, slots := 0, locals := 23 } : Room) (va_Pc [.ref a0, .int x1] (xB z D cA M)) (va_Qv K (xWd z D cA) (xA z)) 0 0 (xA z) := by
  refine x_met (by decide +kernel) (Nat.le_of_ble_eq_true rfl) (L0 := [(0, .ref a0), (1, .int x1)]) rfl ?_
  intro p e s m args below meth c E hr hlk hnm
  have E : xE RX11 cX11_remove 3 D cA p s m args c := E
  replace h := h.2
  refine x_aload_n E dX11_remove_0 rfl 0 rfl ?_
  obtain ⟨hT, q1, hv, h⟩ := h
  refine x_get E flX11_31 dX11_remove_1 hT hv ?_
  clear hT hv
  refine x_aload_n E dX11_remove_4 rfl 0 rfl ?_
  refine x_iload_n E dX11_remove_5 rfl 1 rfl ?_
  refine x_callVi (T := TX11) (N := 32) (t := 12) (As := [.int x1]) E mlX11_174 inX11_shelfOf seX11_shelfOf rfl ⟨by decide, by decide⟩ (tX11_shelfOf h) (kX11_shelfOf l z D cA a0 x1 M _ h) rfl ⟨rfl, rfl⟩ ⟨Nat.le_of_ble_eq_true rfl, Nat.le_of_ble_eq_true rfl⟩ ⟨(Nat.le_of_ble_eq_true rfl), (Nat.le_of_ble_eq_true rfl)⟩ (Nat.le_of_ble_eq_true rfl) rfl dX11_remove_6 (x_pure (fun r2 h => ?_))
  refine x_dup2 E dX11_remove_9 rfl rfl ?_
  obtain ⟨hT, hi, v4, hv, h⟩ := h
  refine x_iald E dX11_remove_10 hT hi hv ?_
  clear hT hi hv
  refine x_iconst (v := (J 1)) E dX11_remove_11 (by decide) ?_
  refine x_isub E dX11_remove_12 ?_
  obtain ⟨hT, hi, h⟩ := h
  refine x_iast E dX11_remove_13 hT hi (fun M5 eM5 => ?_)
  replace h := h M5 eM5
  clear hT hi eM5
  refine x_aload_n E dX11_remove_14 rfl 0 rfl ?_
  refine x_dup E dX11_remove_15 rfl ?_
  obtain ⟨hT, v6, hv, h⟩ := h
  refine x_get E flX11_222 dX11_remove_16 hT hv ?_
  clear hT hv
  refine x_iconst (v := (J 1)) E dX11_remove_19 (by decide) ?_
  refine x_isub E dX11_remove_20 ?_
  obtain ⟨hT, h⟩ := h
  refine x_put E flX11_222 ⟨tyX11_ok, nmX11, rfl⟩ (by decide +kernel) rfl rfl dX11_remove_21 hT (fun M7 eM7 => ?_)
  replace h := h M7 eM7
  clear hT eM7
  refine x_iload_n E dX11_remove_24 rfl 1 rfl ?_
  refine x_istore_n (L' := [(2, .int x1), (0, .ref a0), (1, .int x1)]) E dX11_remove_25 rfl (by decide) rfl ?_
  refine x_sub (L' := [(0, .ref a0), (2, .int x1)]) [1, 0] rfl ?_
  refine lp_sound (T := fun sv => xG p l e ({ frames := 1, cells := 0, slots := 0, locals := 23 } : Room) s m args below meth c (MQ below (va_Qv K (xWd z D cA) (xA z)) args s 0 0 (xA z)) 3 z D cA sv.1 (0) (0) 26 [(0, .ref a0), (2, .int sv.2)] []) ?_ (M7, x1) h
  clear h
  intro kc26 hk26 sv h
  obtain ⟨M, x2⟩ := sv
  replace h : CX11_remove_26 K a0 kc26 M x2 := h
  try dsimp only
  refine x_iload_n E dX11_remove_26 rfl 1 rfl ?_
  refine x_aload_n E dX11_remove_27 rfl 0 rfl ?_
  obtain ⟨hT, v8, hv, h⟩ := h
  refine x_get E flX11_222 dX11_remove_28 hT hv ?_
  clear hT hv
  refine x_icmp_ge (tgt := 54) E dX11_remove_31 (by decide) (fun c9 => ?_) (fun c9 => ?_)
  · replace h := xbr_t h c9
    clear c9
    exact x_vret E hr hlk dX11_remove_54 h
  · replace h := xbr_f h c9
    clear c9
    refine x_aload_n E dX11_remove_34 rfl 0 rfl ?_
    obtain ⟨hT, q10, hv, h⟩ := h
    refine x_get E flX11_28 dX11_remove_35 hT hv ?_
    clear hT hv
    refine x_iload_n E dX11_remove_38 rfl 1 rfl ?_
    refine x_aload_n E dX11_remove_39 rfl 0 rfl ?_
    obtain ⟨hT, q11, hv, h⟩ := h
    refine x_get E flX11_28 dX11_remove_40 hT hv ?_
    clear hT hv
    refine x_iload_n E dX11_remove_43 rfl 1 rfl ?_
    refine x_iconst (v := (J 1)) E dX11_remove_44 (by decide) ?_
    refine x_iadd E dX11_remove_45 ?_
    obtain ⟨hT, hi, v12, hv, h⟩ := h
    refine x_iald E dX11_remove_46 hT hi hv ?_
    clear hT hi hv
    obtain ⟨hT, hi, h⟩ := h
    refine x_iast E dX11_remove_47 hT hi (fun M13 eM13 => ?_)
    replace h := h M13 eM13
    clear hT hi eM13
    refine x_iinc (v := (x2 + (J 1))) (L' := [(2, .int (x2 + (J 1))), (0, .ref a0)]) E dX11_remove_48 1 rfl rfl (by decide) rfl ?_
    refine x_goto (tgt := 26) E dX11_remove_51 (by decide) ?_
    refine x_sub (L' := [(0, .ref a0), (2, .int (x2 + (J 1)))]) [1, 0] rfl ?_
    exact hk26 (M13, (x2 + (J 1))) h
theorem dX11_set_0 : decode cX11_set 0 = .ok (.aload_n 0, 1) := by decide +kernel
theorem dX11_set_1 : decode cX11_set 1 = .ok (.iload_n 1, 1) := by decide +kernel
theorem dX11_set_2 : decode cX11_set 2 = .ok (.invokevirtual 163, 3) := by decide +kernel
theorem dX11_set_5 : decode cX11_set 5 = .ok (.ifCond .eq 10, 3) := by decide +kernel
theorem dX11_set_8 : decode cX11_set 8 = .ok (.iload_n 2, 1) := by decide +kernel
theorem dX11_set_9 : decode cX11_set 9 = .ok (.invokestatic 234, 3) := by decide +kernel
theorem dX11_set_12 : decode cX11_set 12 = .ok (.ifCond .ne 7, 3) := by decide +kernel
theorem dX11_set_15 : decode cX11_set 15 = .ok (.sipush (-1001), 3) := by decide +kernel
theorem dX11_set_18 : decode cX11_set 18 = .ok (.ireturn, 1) := by decide +kernel
theorem dX11_set_19 : decode cX11_set 19 = .ok (.iload_n 3, 1) := by decide +kernel
theorem dX11_set_20 : decode cX11_set 20 = .ok (.i2l, 1) := by decide +kernel
theorem dX11_set_21 : decode cX11_set 21 = .ok (.lconst 0, 1) := by decide +kernel
theorem dX11_set_22 : decode cX11_set 22 = .ok (.aload_n 0, 1) := by decide +kernel
theorem dX11_set_23 : decode cX11_set 23 = .ok (.getfield 31, 3) := by decide +kernel
theorem dX11_set_26 : decode cX11_set 26 = .ok (.iload_n 2, 1) := by decide +kernel
theorem dX11_set_27 : decode cX11_set 27 = .ok (.iaload, 1) := by decide +kernel
theorem dX11_set_28 : decode cX11_set 28 = .ok (.i2l, 1) := by decide +kernel
theorem dX11_set_29 : decode cX11_set 29 = .ok (.invokestatic 78, 3) := by decide +kernel
theorem dX11_set_32 : decode cX11_set 32 = .ok (.ifCond .ne 7, 3) := by decide +kernel
theorem dX11_set_35 : decode cX11_set 35 = .ok (.sipush (-1002), 3) := by decide +kernel
theorem dX11_set_38 : decode cX11_set 38 = .ok (.ireturn, 1) := by decide +kernel
theorem dX11_set_39 : decode cX11_set 39 = .ok (.aload_n 0, 1) := by decide +kernel
theorem dX11_set_40 : decode cX11_set 40 = .ok (.iload_n 1, 1) := by decide +kernel
theorem dX11_set_41 : decode cX11_set 41 = .ok (.invokevirtual 167, 3) := by decide +kernel
theorem dX11_set_44 : decode cX11_set 44 = .ok (.ifCond .ge 17, 3) := by decide +kernel
theorem dX11_set_47 : decode cX11_set 47 = .ok (.aload_n 0, 1) := by decide +kernel
theorem dX11_set_48 : decode cX11_set 48 = .ok (.iload_n 2, 1) := by decide +kernel
theorem dX11_set_49 : decode cX11_set 49 = .ok (.invokevirtual 239, 3) := by decide +kernel
theorem dX11_set_52 : decode cX11_set 52 = .ok (.aload_n 0, 1) := by decide +kernel
theorem dX11_set_53 : decode cX11_set 53 = .ok (.getfield 22, 3) := by decide +kernel
theorem dX11_set_56 : decode cX11_set 56 = .ok (.iload_n 1, 1) := by decide +kernel
theorem dX11_set_57 : decode cX11_set 57 = .ok (.iaload, 1) := by decide +kernel
theorem dX11_set_58 : decode cX11_set 58 = .ok (.if_icmp .ge 7, 3) := by decide +kernel
theorem dX11_set_61 : decode cX11_set 61 = .ok (.sipush (-1003), 3) := by decide +kernel
theorem dX11_set_64 : decode cX11_set 64 = .ok (.ireturn, 1) := by decide +kernel
theorem dX11_set_65 : decode cX11_set 65 = .ok (.aload_n 0, 1) := by decide +kernel
theorem dX11_set_66 : decode cX11_set 66 = .ok (.iload_n 1, 1) := by decide +kernel
theorem dX11_set_67 : decode cX11_set 67 = .ok (.iload_n 2, 1) := by decide +kernel
theorem dX11_set_68 : decode cX11_set 68 = .ok (.aload_n 0, 1) := by decide +kernel
theorem dX11_set_69 : decode cX11_set 69 = .ok (.iload_n 2, 1) := by decide +kernel
theorem dX11_set_70 : decode cX11_set 70 = .ok (.invokevirtual 177, 3) := by decide +kernel
theorem dX11_set_73 : decode cX11_set 73 = .ok (.iload_n 3, 1) := by decide +kernel
theorem dX11_set_74 : decode cX11_set 74 = .ok (.iadd, 1) := by decide +kernel
theorem dX11_set_75 : decode cX11_set 75 = .ok (.invokevirtual 242, 3) := by decide +kernel
theorem dX11_set_78 : decode cX11_set 78 = .ok (.iconst 1, 1) := by decide +kernel
theorem dX11_set_79 : decode cX11_set 79 = .ok (.ireturn, 1) := by decide +kernel
set_option maxHeartbeats 4000000 in
set_option maxRecDepth 100000 in
theorem kX11_set (l : Launch) (z : Nat) (D : va_G) (cA : Nat → ClassId) (a0 : Nat) (x1 : Int32) (x2 : Int32) (x3 : Int32) (M : Mem) (K : Int32 → Mem → Prop) (h : PX11_set a0 x1 x2 x3 M K) : Met l yX11_set (.code yX11_set cX11_set 4 (some .int) :: gtbl) ({ frames := 3, cells := 0, slots := 0, locals := 68 } : Room) (va_Pc [.ref a0, .int x1, .int x2, .int x3] (xB z D cA M)) (va_Qi K (xWd z D cA) (xA z)) 0 0 (xA z) := by
  refine x_met (by decide +kernel) (Nat.le_of_ble_eq_true rfl) (L0 := [(0, .ref a0), (1, .int x1), (2, .int x2), (3, .int x3)]) rfl ?_
  intro p e s m args below meth c E hr hlk hnm
  have E : xE RX11 cX11_set 4 D cA p s m args c := E
  replace h := h.2
  refine x_aload_n E dX11_set_0 rfl 0 rfl ?_
  refine x_iload_n E dX11_set_1 rfl 1 rfl ?_
  refine x_callVi (T := TX11) (N := 32) (t := 12) (As := [.int x1]) E mlX11_163 inX11_isBook seX11_isBook rfl ⟨by decide, by decide⟩ (tX11_isBook h) (kX11_isBook l z D cA a0 x1 M _ h) rfl ⟨rfl, rfl⟩ ⟨Nat.le_of_ble_eq_true rfl, Nat.le_of_ble_eq_true rfl⟩ ⟨(Nat.le_of_ble_eq_true rfl), (Nat.le_of_ble_eq_true rfl)⟩ (Nat.le_of_ble_eq_true rfl) rfl dX11_set_2 (x_pure (fun r1 h => ?_))
  refine x_if_eq (tgt := 15) E dX11_set_5 (by decide) (fun c3 => ?_) (fun c3 => ?_)
  · replace h := xbr_t h c3
    clear c3
    refine x_sipush (v := (J (-1001))) E dX11_set_15 (by decide) ?_
    exact x_iret E hr hlk dX11_set_18 h
  · replace h := xbr_f h c3
    clear c3
    refine x_iload_n E dX11_set_8 rfl 2 rfl ?_
    refine x_callSi (As := [.int x2]) E mlX11_234 rfl stX11_isShelf (kX11_isShelf l z D cA x2 M _ h) rfl ⟨rfl, rfl⟩ ⟨Nat.le_of_ble_eq_true rfl, Nat.le_of_ble_eq_true rfl⟩ ⟨(Nat.le_of_ble_eq_true rfl), (Nat.le_of_ble_eq_true rfl)⟩ (Nat.le_of_ble_eq_true rfl) rfl dX11_set_9 (x_pure (fun r4 h => ?_))
    refine x_if_ne (tgt := 19) E dX11_set_12 (by decide) (fun c6 => ?_) (fun c6 => ?_)
    · replace h := xbr_f h c6
      clear c6
      refine x_iload_n E dX11_set_19 rfl 3 rfl ?_
      refine x_i2l E dX11_set_20 ?_
      refine x_lconst (v := (LJ 0)) E dX11_set_21 (by decide) ?_
      refine x_aload_n E dX11_set_22 rfl 0 rfl ?_
      obtain ⟨hT, q7, hv, h⟩ := h
      refine x_get E flX11_31 dX11_set_23 hT hv ?_
      clear hT hv
      refine x_iload_n E dX11_set_26 rfl 2 rfl ?_
      obtain ⟨hT, hi, v8, hv, h⟩ := h
      refine x_iald E dX11_set_27 hT hi hv ?_
      clear hT hi hv
      refine x_i2l E dX11_set_28 ?_
      refine x_callSi (As := [.long x3.toInt64, .long (LJ 0), .long v8.toInt64]) E mlX11_78 rfl stX11_in (kX11_in l z D cA x3.toInt64 (LJ 0) v8.toInt64 M _ h) rfl ⟨rfl, rfl⟩ ⟨Nat.le_of_ble_eq_true rfl, Nat.le_of_ble_eq_true rfl⟩ ⟨(Nat.le_of_ble_eq_true rfl), (Nat.le_of_ble_eq_true rfl)⟩ (Nat.le_of_ble_eq_true rfl) rfl dX11_set_29 (x_pure (fun r9 h => ?_))
      refine x_if_ne (tgt := 39) E dX11_set_32 (by decide) (fun c11 => ?_) (fun c11 => ?_)
      · replace h := xbr_f h c11
        clear c11
        refine x_aload_n E dX11_set_39 rfl 0 rfl ?_
        refine x_iload_n E dX11_set_40 rfl 1 rfl ?_
        refine x_callVi (T := TX11) (N := 32) (t := 12) (As := [.int x1]) E mlX11_167 inX11_placeOf seX11_placeOf rfl ⟨by decide, by decide⟩ (tX11_placeOf h) (kX11_placeOf l z D cA a0 x1 M _ h) rfl ⟨rfl, rfl⟩ ⟨Nat.le_of_ble_eq_true rfl, Nat.le_of_ble_eq_true rfl⟩ ⟨(Nat.le_of_ble_eq_true rfl), (Nat.le_of_ble_eq_true rfl)⟩ (Nat.le_of_ble_eq_true rfl) rfl dX11_set_41 (x_pure (fun r12 h => ?_))
        refine x_if_ge (tgt := 61) E dX11_set_44 (by decide) (fun c14 => ?_) (fun c14 => ?_)
        · replace h := xbr_t h c14
          clear c14
          refine x_sipush (v := (J (-1003))) E dX11_set_61 (by decide) ?_
          exact x_iret E hr hlk dX11_set_64 h
        · replace h := xbr_f h c14
          clear c14
          refine x_aload_n E dX11_set_47 rfl 0 rfl ?_
          refine x_iload_n E dX11_set_48 rfl 2 rfl ?_
          refine x_callVi (T := TX11) (N := 32) (t := 12) (As := [.int x2]) E mlX11_239 inX11_roomOn seX11_roomOn rfl ⟨by decide, by decide⟩ (tX11_roomOn h) (kX11_roomOn l z D cA a0 x2 M _ h) rfl ⟨rfl, rfl⟩ ⟨Nat.le_of_ble_eq_true rfl, Nat.le_of_ble_eq_true rfl⟩ ⟨(Nat.le_of_ble_eq_true rfl), (Nat.le_of_ble_eq_true rfl)⟩ (Nat.le_of_ble_eq_true rfl) rfl dX11_set_49 (x_pure (fun r15 h => ?_))
          refine x_aload_n E dX11_set_52 rfl 0 rfl ?_
          obtain ⟨hT, q17, hv, h⟩ := h
          refine x_get E flX11_22 dX11_set_53 hT hv ?_
          clear hT hv
          refine x_iload_n E dX11_set_56 rfl 1 rfl ?_
          obtain ⟨hT, hi, v18, hv, h⟩ := h
          refine x_iald E dX11_set_57 hT hi hv ?_
          clear hT hi hv
          refine x_icmp_ge (tgt := 65) E dX11_set_58 (by decide) (fun c19 => ?_) (fun c19 => ?_)
          · replace h := xbr_t h c19
            clear c19
            refine x_aload_n E dX11_set_65 rfl 0 rfl ?_
            refine x_iload_n E dX11_set_66 rfl 1 rfl ?_
            refine x_iload_n E dX11_set_67 rfl 2 rfl ?_
            refine x_aload_n E dX11_set_68 rfl 0 rfl ?_
            refine x_iload_n E dX11_set_69 rfl 2 rfl ?_
            refine x_callVi (T := TX11) (N := 32) (t := 12) (As := [.int x2]) E mlX11_177 inX11_firstOf seX11_firstOf rfl ⟨by decide, by decide⟩ (tX11_firstOf h) (kX11_firstOf l z D cA a0 x2 M _ h) rfl ⟨rfl, rfl⟩ ⟨Nat.le_of_ble_eq_true rfl, Nat.le_of_ble_eq_true rfl⟩ ⟨(Nat.le_of_ble_eq_true rfl), (Nat.le_of_ble_eq_true rfl)⟩ (Nat.le_of_ble_eq_true rfl) rfl dX11_set_70 (x_pure (fun r20 h => ?_))
            refine x_iload_n E dX11_set_73 rfl 3 rfl ?_
            refine x_iadd E dX11_set_74 ?_
            refine x_callVv (T := TX11) (N := 32) (t := 12) (As := [.int x1, .int x2, .int (r20 + x3)]) E mlX11_242 inX11_insert seX11_insert rfl ⟨by decide, by decide⟩ (tX11_insert h) (kX11_insert l z D cA a0 x1 x2 (r20 + x3) M _ h) rfl ⟨rfl, rfl⟩ ⟨Nat.le_of_ble_eq_true rfl, Nat.le_of_ble_eq_true rfl⟩ ⟨(Nat.le_of_ble_eq_true rfl), (Nat.le_of_ble_eq_true rfl)⟩ (Nat.le_of_ble_eq_true rfl) rfl dX11_set_75 (fun M23 h => ?_)
            refine x_iconst (v := (J 1)) E dX11_set_78 (by decide) ?_
            exact x_iret E hr hlk dX11_set_79 h
          · replace h := xbr_f h c19
            clear c19
            refine x_sipush (v := (J (-1003))) E dX11_set_61 (by decide) ?_
            exact x_iret E hr hlk dX11_set_64 h
      · replace h := xbr_t h c11
        clear c11
        refine x_sipush (v := (J (-1002))) E dX11_set_35 (by decide) ?_
        exact x_iret E hr hlk dX11_set_38 h
    · replace h := xbr_t h c6
      clear c6
      refine x_sipush (v := (J (-1001))) E dX11_set_15 (by decide) ?_
      exact x_iret E hr hlk dX11_set_18 h
theorem dX11_save_0 : decode cX11_save 0 = .ok (.aload_n 0, 1) := by decide +kernel
theorem dX11_save_1 : decode cX11_save 1 = .ok (.aload_n 0, 1) := by decide +kernel
theorem dX11_save_2 : decode cX11_save 2 = .ok (.getfield 222, 3) := by decide +kernel
theorem dX11_save_5 : decode cX11_save 5 = .ok (.putfield 246, 3) := by decide +kernel
theorem dX11_save_8 : decode cX11_save 8 = .ok (.iconst 0, 1) := by decide +kernel
theorem dX11_save_9 : decode cX11_save 9 = .ok (.istore_n 1, 1) := by decide +kernel
theorem dX11_save_10 : decode cX11_save 10 = .ok (.iload_n 1, 1) := by decide +kernel
theorem dX11_save_11 : decode cX11_save 11 = .ok (.bipush 25, 2) := by decide +kernel
theorem dX11_save_13 : decode cX11_save 13 = .ok (.if_icmp .ge 21, 3) := by decide +kernel
theorem dX11_save_16 : decode cX11_save 16 = .ok (.aload_n 0, 1) := by decide +kernel
theorem dX11_save_17 : decode cX11_save 17 = .ok (.getfield 47, 3) := by decide +kernel
theorem dX11_save_20 : decode cX11_save 20 = .ok (.iload_n 1, 1) := by decide +kernel
theorem dX11_save_21 : decode cX11_save 21 = .ok (.aload_n 0, 1) := by decide +kernel
theorem dX11_save_22 : decode cX11_save 22 = .ok (.getfield 28, 3) := by decide +kernel
theorem dX11_save_25 : decode cX11_save 25 = .ok (.iload_n 1, 1) := by decide +kernel
theorem dX11_save_26 : decode cX11_save 26 = .ok (.iaload, 1) := by decide +kernel
theorem dX11_save_27 : decode cX11_save 27 = .ok (.iastore, 1) := by decide +kernel
theorem dX11_save_28 : decode cX11_save 28 = .ok (.iinc 1 1, 3) := by decide +kernel
theorem dX11_save_31 : decode cX11_save 31 = .ok (.goto (-21), 3) := by decide +kernel
theorem dX11_save_34 : decode cX11_save 34 = .ok (.iconst 0, 1) := by decide +kernel
theorem dX11_save_35 : decode cX11_save 35 = .ok (.istore_n 1, 1) := by decide +kernel
theorem dX11_save_36 : decode cX11_save 36 = .ok (.iload_n 1, 1) := by decide +kernel
theorem dX11_save_37 : decode cX11_save 37 = .ok (.bipush 8, 2) := by decide +kernel
theorem dX11_save_39 : decode cX11_save 39 = .ok (.if_icmp .ge 21, 3) := by decide +kernel
theorem dX11_save_42 : decode cX11_save 42 = .ok (.aload_n 0, 1) := by decide +kernel
theorem dX11_save_43 : decode cX11_save 43 = .ok (.getfield 50, 3) := by decide +kernel
theorem dX11_save_46 : decode cX11_save 46 = .ok (.iload_n 1, 1) := by decide +kernel
theorem dX11_save_47 : decode cX11_save 47 = .ok (.aload_n 0, 1) := by decide +kernel
theorem dX11_save_48 : decode cX11_save 48 = .ok (.getfield 31, 3) := by decide +kernel
theorem dX11_save_51 : decode cX11_save 51 = .ok (.iload_n 1, 1) := by decide +kernel
theorem dX11_save_52 : decode cX11_save 52 = .ok (.iaload, 1) := by decide +kernel
theorem dX11_save_53 : decode cX11_save 53 = .ok (.iastore, 1) := by decide +kernel
theorem dX11_save_54 : decode cX11_save 54 = .ok (.iinc 1 1, 3) := by decide +kernel
theorem dX11_save_57 : decode cX11_save 57 = .ok (.goto (-21), 3) := by decide +kernel
theorem dX11_save_60 : decode cX11_save 60 = .ok (.return_, 1) := by decide +kernel
set_option maxHeartbeats 4000000 in
set_option maxRecDepth 100000 in
theorem kX11_save (l : Launch) (z : Nat) (D : va_G) (cA : Nat → ClassId) (a0 : Nat) (M : Mem) (K : Mem → Prop) (h : PX11_save a0 M K) : Met l yX11_save (.code yX11_save cX11_save 2 none :: gtbl) ({ frames := 0, cells := 0, slots := 0, locals := 0 } : Room) (va_Pc [.ref a0] (xB z D cA M)) (va_Qv K (xWd z D cA) (xA z)) 0 0 (xA z) := by
  refine x_met (by decide +kernel) (Nat.le_of_ble_eq_true rfl) (L0 := [(0, .ref a0)]) rfl ?_
  intro p e s m args below meth c E hr hlk hnm
  have E : xE RX11 cX11_save 2 D cA p s m args c := E
  replace h := h.2
  refine x_aload_n E dX11_save_0 rfl 0 rfl ?_
  refine x_aload_n E dX11_save_1 rfl 0 rfl ?_
  obtain ⟨hT, v1, hv, h⟩ := h
  refine x_get E flX11_222 dX11_save_2 hT hv ?_
  clear hT hv
  obtain ⟨hT, h⟩ := h
  refine x_put E flX11_246 ⟨tyX11_ok, nmX11, rfl⟩ (by decide +kernel) rfl rfl dX11_save_5 hT (fun M2 eM2 => ?_)
  replace h := h M2 eM2
  clear hT eM2
  refine x_iconst (v := (J 0)) E dX11_save_8 (by decide) ?_
  refine x_istore_n (L' := [(1, .int (J 0)), (0, .ref a0)]) E dX11_save_9 rfl (by decide) rfl ?_
  refine x_sub (L' := [(0, .ref a0), (1, .int (J 0))]) [1, 0] rfl ?_
  refine lp_sound (T := fun sv => xG p l e ({ frames := 0, cells := 0, slots := 0, locals := 0 } : Room) s m args below meth c (MQ below (va_Qv K (xWd z D cA) (xA z)) args s 0 0 (xA z)) 2 z D cA sv.1 (0) (0) 10 [(0, .ref a0), (1, .int sv.2)] []) ?_ (M2, (J 0)) h
  clear h
  intro kc10 hk10 sv h
  obtain ⟨M, x1⟩ := sv
  replace h : CX11_save_10 K a0 kc10 M x1 := h
  try dsimp only
  refine x_iload_n E dX11_save_10 rfl 1 rfl ?_
  refine x_bipush (v := (J 25)) E dX11_save_11 (by decide) ?_
  refine x_icmp_ge (tgt := 34) E dX11_save_13 (by decide) (fun c3 => ?_) (fun c3 => ?_)
  · replace h := xbr_t h c3
    clear c3
    refine x_iconst (v := (J 0)) E dX11_save_34 (by decide) ?_
    refine x_istore_n (L' := [(1, .int (J 0)), (0, .ref a0)]) E dX11_save_35 rfl (by decide) rfl ?_
    refine x_sub (L' := [(0, .ref a0), (1, .int (J 0))]) [1, 0] rfl ?_
    refine lp_sound (T := fun sv => xG p l e ({ frames := 0, cells := 0, slots := 0, locals := 0 } : Room) s m args below meth c (MQ below (va_Qv K (xWd z D cA) (xA z)) args s 0 0 (xA z)) 2 z D cA sv.1 (0) (0) 36 [(0, .ref a0), (1, .int sv.2)] []) ?_ (M, (J 0)) h
    clear h
    intro kc36 hk36 sv h
    obtain ⟨M, x1⟩ := sv
    replace h : CX11_save_36 K a0 kc36 M x1 := h
    try dsimp only
    refine x_iload_n E dX11_save_36 rfl 1 rfl ?_
    refine x_bipush (v := (J 8)) E dX11_save_37 (by decide) ?_
    refine x_icmp_ge (tgt := 60) E dX11_save_39 (by decide) (fun c4 => ?_) (fun c4 => ?_)
    · replace h := xbr_t h c4
      clear c4
      exact x_vret E hr hlk dX11_save_60 h
    · replace h := xbr_f h c4
      clear c4
      refine x_aload_n E dX11_save_42 rfl 0 rfl ?_
      obtain ⟨hT, q5, hv, h⟩ := h
      refine x_get E flX11_50 dX11_save_43 hT hv ?_
      clear hT hv
      refine x_iload_n E dX11_save_46 rfl 1 rfl ?_
      refine x_aload_n E dX11_save_47 rfl 0 rfl ?_
      obtain ⟨hT, q6, hv, h⟩ := h
      refine x_get E flX11_31 dX11_save_48 hT hv ?_
      clear hT hv
      refine x_iload_n E dX11_save_51 rfl 1 rfl ?_
      obtain ⟨hT, hi, v7, hv, h⟩ := h
      refine x_iald E dX11_save_52 hT hi hv ?_
      clear hT hi hv
      obtain ⟨hT, hi, h⟩ := h
      refine x_iast E dX11_save_53 hT hi (fun M8 eM8 => ?_)
      replace h := h M8 eM8
      clear hT hi eM8
      refine x_iinc (v := (x1 + (J 1))) (L' := [(1, .int (x1 + (J 1))), (0, .ref a0)]) E dX11_save_54 1 rfl rfl (by decide) rfl ?_
      refine x_goto (tgt := 36) E dX11_save_57 (by decide) ?_
      refine x_sub (L' := [(0, .ref a0), (1, .int (x1 + (J 1)))]) [1, 0] rfl ?_
      exact hk36 (M8, (x1 + (J 1))) h
  · replace h := xbr_f h c3
    clear c3
    refine x_aload_n E dX11_save_16 rfl 0 rfl ?_
    obtain ⟨hT, q9, hv, h⟩ := h
    refine x_get E flX11_47 dX11_save_17 hT hv ?_
    clear hT hv
    refine x_iload_n E dX11_save_20 rfl 1 rfl ?_
    refine x_aload_n E dX11_save_21 rfl 0 rfl ?_
    obtain ⟨hT, q10, hv, h⟩ := h
    refine x_get E flX11_28 dX11_save_22 hT hv ?_
    clear hT hv
    refine x_iload_n E dX11_save_25 rfl 1 rfl ?_
    obtain ⟨hT, hi, v11, hv, h⟩ := h
    refine x_iald E dX11_save_26 hT hi hv ?_
    clear hT hi hv
    obtain ⟨hT, hi, h⟩ := h
    refine x_iast E dX11_save_27 hT hi (fun M12 eM12 => ?_)
    replace h := h M12 eM12
    clear hT hi eM12
    refine x_iinc (v := (x1 + (J 1))) (L' := [(1, .int (x1 + (J 1))), (0, .ref a0)]) E dX11_save_28 1 rfl rfl (by decide) rfl ?_
    refine x_goto (tgt := 10) E dX11_save_31 (by decide) ?_
    refine x_sub (L' := [(0, .ref a0), (1, .int (x1 + (J 1)))]) [1, 0] rfl ?_
    exact hk10 (M12, (x1 + (J 1))) h
theorem dX11_back_0 : decode cX11_back 0 = .ok (.aload_n 0, 1) := by decide +kernel
theorem dX11_back_1 : decode cX11_back 1 = .ok (.aload_n 0, 1) := by decide +kernel
theorem dX11_back_2 : decode cX11_back 2 = .ok (.getfield 246, 3) := by decide +kernel
theorem dX11_back_5 : decode cX11_back 5 = .ok (.putfield 222, 3) := by decide +kernel
theorem dX11_back_8 : decode cX11_back 8 = .ok (.iconst 0, 1) := by decide +kernel
theorem dX11_back_9 : decode cX11_back 9 = .ok (.istore_n 1, 1) := by decide +kernel
theorem dX11_back_10 : decode cX11_back 10 = .ok (.iload_n 1, 1) := by decide +kernel
theorem dX11_back_11 : decode cX11_back 11 = .ok (.bipush 25, 2) := by decide +kernel
theorem dX11_back_13 : decode cX11_back 13 = .ok (.if_icmp .ge 21, 3) := by decide +kernel
theorem dX11_back_16 : decode cX11_back 16 = .ok (.aload_n 0, 1) := by decide +kernel
theorem dX11_back_17 : decode cX11_back 17 = .ok (.getfield 28, 3) := by decide +kernel
theorem dX11_back_20 : decode cX11_back 20 = .ok (.iload_n 1, 1) := by decide +kernel
theorem dX11_back_21 : decode cX11_back 21 = .ok (.aload_n 0, 1) := by decide +kernel
theorem dX11_back_22 : decode cX11_back 22 = .ok (.getfield 47, 3) := by decide +kernel
theorem dX11_back_25 : decode cX11_back 25 = .ok (.iload_n 1, 1) := by decide +kernel
theorem dX11_back_26 : decode cX11_back 26 = .ok (.iaload, 1) := by decide +kernel
theorem dX11_back_27 : decode cX11_back 27 = .ok (.iastore, 1) := by decide +kernel
theorem dX11_back_28 : decode cX11_back 28 = .ok (.iinc 1 1, 3) := by decide +kernel
theorem dX11_back_31 : decode cX11_back 31 = .ok (.goto (-21), 3) := by decide +kernel
theorem dX11_back_34 : decode cX11_back 34 = .ok (.iconst 0, 1) := by decide +kernel
theorem dX11_back_35 : decode cX11_back 35 = .ok (.istore_n 1, 1) := by decide +kernel
theorem dX11_back_36 : decode cX11_back 36 = .ok (.iload_n 1, 1) := by decide +kernel
theorem dX11_back_37 : decode cX11_back 37 = .ok (.bipush 8, 2) := by decide +kernel
theorem dX11_back_39 : decode cX11_back 39 = .ok (.if_icmp .ge 21, 3) := by decide +kernel
theorem dX11_back_42 : decode cX11_back 42 = .ok (.aload_n 0, 1) := by decide +kernel
theorem dX11_back_43 : decode cX11_back 43 = .ok (.getfield 31, 3) := by decide +kernel
theorem dX11_back_46 : decode cX11_back 46 = .ok (.iload_n 1, 1) := by decide +kernel
theorem dX11_back_47 : decode cX11_back 47 = .ok (.aload_n 0, 1) := by decide +kernel
theorem dX11_back_48 : decode cX11_back 48 = .ok (.getfield 50, 3) := by decide +kernel
theorem dX11_back_51 : decode cX11_back 51 = .ok (.iload_n 1, 1) := by decide +kernel
theorem dX11_back_52 : decode cX11_back 52 = .ok (.iaload, 1) := by decide +kernel
theorem dX11_back_53 : decode cX11_back 53 = .ok (.iastore, 1) := by decide +kernel
theorem dX11_back_54 : decode cX11_back 54 = .ok (.iinc 1 1, 3) := by decide +kernel
theorem dX11_back_57 : decode cX11_back 57 = .ok (.goto (-21), 3) := by decide +kernel
theorem dX11_back_60 : decode cX11_back 60 = .ok (.return_, 1) := by decide +kernel
set_option maxHeartbeats 4000000 in
set_option maxRecDepth 100000 in
theorem kX11_back (l : Launch) (z : Nat) (D : va_G) (cA : Nat → ClassId) (a0 : Nat) (M : Mem) (K : Mem → Prop) (h : PX11_back a0 M K) : Met l yX11_back (.code yX11_back cX11_back 2 none :: gtbl) ({ frames := 0, cells := 0, slots := 0, locals := 0 } : Room) (va_Pc [.ref a0] (xB z D cA M)) (va_Qv K (xWd z D cA) (xA z)) 0 0 (xA z) := by
  refine x_met (by decide +kernel) (Nat.le_of_ble_eq_true rfl) (L0 := [(0, .ref a0)]) rfl ?_
  intro p e s m args below meth c E hr hlk hnm
  have E : xE RX11 cX11_back 2 D cA p s m args c := E
  replace h := h.2
  refine x_aload_n E dX11_back_0 rfl 0 rfl ?_
  refine x_aload_n E dX11_back_1 rfl 0 rfl ?_
  obtain ⟨hT, v1, hv, h⟩ := h
  refine x_get E flX11_246 dX11_back_2 hT hv ?_
  clear hT hv
  obtain ⟨hT, h⟩ := h
  refine x_put E flX11_222 ⟨tyX11_ok, nmX11, rfl⟩ (by decide +kernel) rfl rfl dX11_back_5 hT (fun M2 eM2 => ?_)
  replace h := h M2 eM2
  clear hT eM2
  refine x_iconst (v := (J 0)) E dX11_back_8 (by decide) ?_
  refine x_istore_n (L' := [(1, .int (J 0)), (0, .ref a0)]) E dX11_back_9 rfl (by decide) rfl ?_
  refine x_sub (L' := [(0, .ref a0), (1, .int (J 0))]) [1, 0] rfl ?_
  refine lp_sound (T := fun sv => xG p l e ({ frames := 0, cells := 0, slots := 0, locals := 0 } : Room) s m args below meth c (MQ below (va_Qv K (xWd z D cA) (xA z)) args s 0 0 (xA z)) 2 z D cA sv.1 (0) (0) 10 [(0, .ref a0), (1, .int sv.2)] []) ?_ (M2, (J 0)) h
  clear h
  intro kc10 hk10 sv h
  obtain ⟨M, x1⟩ := sv
  replace h : CX11_back_10 K a0 kc10 M x1 := h
  try dsimp only
  refine x_iload_n E dX11_back_10 rfl 1 rfl ?_
  refine x_bipush (v := (J 25)) E dX11_back_11 (by decide) ?_
  refine x_icmp_ge (tgt := 34) E dX11_back_13 (by decide) (fun c3 => ?_) (fun c3 => ?_)
  · replace h := xbr_t h c3
    clear c3
    refine x_iconst (v := (J 0)) E dX11_back_34 (by decide) ?_
    refine x_istore_n (L' := [(1, .int (J 0)), (0, .ref a0)]) E dX11_back_35 rfl (by decide) rfl ?_
    refine x_sub (L' := [(0, .ref a0), (1, .int (J 0))]) [1, 0] rfl ?_
    refine lp_sound (T := fun sv => xG p l e ({ frames := 0, cells := 0, slots := 0, locals := 0 } : Room) s m args below meth c (MQ below (va_Qv K (xWd z D cA) (xA z)) args s 0 0 (xA z)) 2 z D cA sv.1 (0) (0) 36 [(0, .ref a0), (1, .int sv.2)] []) ?_ (M, (J 0)) h
    clear h
    intro kc36 hk36 sv h
    obtain ⟨M, x1⟩ := sv
    replace h : CX11_back_36 K a0 kc36 M x1 := h
    try dsimp only
    refine x_iload_n E dX11_back_36 rfl 1 rfl ?_
    refine x_bipush (v := (J 8)) E dX11_back_37 (by decide) ?_
    refine x_icmp_ge (tgt := 60) E dX11_back_39 (by decide) (fun c4 => ?_) (fun c4 => ?_)
    · replace h := xbr_t h c4
      clear c4
      exact x_vret E hr hlk dX11_back_60 h
    · replace h := xbr_f h c4
      clear c4
      refine x_aload_n E dX11_back_42 rfl 0 rfl ?_
      obtain ⟨hT, q5, hv, h⟩ := h
      refine x_get E flX11_31 dX11_back_43 hT hv ?_
      clear hT hv
      refine x_iload_n E dX11_back_46 rfl 1 rfl ?_
      refine x_aload_n E dX11_back_47 rfl 0 rfl ?_
      obtain ⟨hT, q6, hv, h⟩ := h
      refine x_get E flX11_50 dX11_back_48 hT hv ?_
      clear hT hv
      refine x_iload_n E dX11_back_51 rfl 1 rfl ?_
      obtain ⟨hT, hi, v7, hv, h⟩ := h
      refine x_iald E dX11_back_52 hT hi hv ?_
      clear hT hi hv
      obtain ⟨hT, hi, h⟩ := h
      refine x_iast E dX11_back_53 hT hi (fun M8 eM8 => ?_)
      replace h := h M8 eM8
      clear hT hi eM8
      refine x_iinc (v := (x1 + (J 1))) (L' := [(1, .int (x1 + (J 1))), (0, .ref a0)]) E dX11_back_54 1 rfl rfl (by decide) rfl ?_
      refine x_goto (tgt := 36) E dX11_back_57 (by decide) ?_
      refine x_sub (L' := [(0, .ref a0), (1, .int (x1 + (J 1)))]) [1, 0] rfl ?_
      exact hk36 (M8, (x1 + (J 1))) h
  · replace h := xbr_f h c3
    clear c3
    refine x_aload_n E dX11_back_16 rfl 0 rfl ?_
    obtain ⟨hT, q9, hv, h⟩ := h
    refine x_get E flX11_28 dX11_back_17 hT hv ?_
    clear hT hv
    refine x_iload_n E dX11_back_20 rfl 1 rfl ?_
    refine x_aload_n E dX11_back_21 rfl 0 rfl ?_
    obtain ⟨hT, q10, hv, h⟩ := h
    refine x_get E flX11_47 dX11_back_22 hT hv ?_
    clear hT hv
    refine x_iload_n E dX11_back_25 rfl 1 rfl ?_
    obtain ⟨hT, hi, v11, hv, h⟩ := h
    refine x_iald E dX11_back_26 hT hi hv ?_
    clear hT hi hv
    obtain ⟨hT, hi, h⟩ := h
    refine x_iast E dX11_back_27 hT hi (fun M12 eM12 => ?_)
    replace h := h M12 eM12
    clear hT hi eM12
    refine x_iinc (v := (x1 + (J 1))) (L' := [(1, .int (x1 + (J 1))), (0, .ref a0)]) E dX11_back_28 1 rfl rfl (by decide) rfl ?_
    refine x_goto (tgt := 10) E dX11_back_31 (by decide) ?_
    refine x_sub (L' := [(0, .ref a0), (1, .int (x1 + (J 1)))]) [1, 0] rfl ?_
    exact hk10 (M12, (x1 + (J 1))) h
theorem dX11_placeBy_0 : decode cX11_placeBy 0 = .ok (.iconst 0, 1) := by decide +kernel
theorem dX11_placeBy_1 : decode cX11_placeBy 1 = .ok (.istore_n 3, 1) := by decide +kernel
theorem dX11_placeBy_2 : decode cX11_placeBy 2 = .ok (.iload_n 3, 1) := by decide +kernel
theorem dX11_placeBy_3 : decode cX11_placeBy 3 = .ok (.aload_n 0, 1) := by decide +kernel
theorem dX11_placeBy_4 : decode cX11_placeBy 4 = .ok (.getfield 222, 3) := by decide +kernel
theorem dX11_placeBy_7 : decode cX11_placeBy 7 = .ok (.if_icmp .ge 24, 3) := by decide +kernel
theorem dX11_placeBy_10 : decode cX11_placeBy 10 = .ok (.aload_n 0, 1) := by decide +kernel
theorem dX11_placeBy_11 : decode cX11_placeBy 11 = .ok (.aload_n 0, 1) := by decide +kernel
theorem dX11_placeBy_12 : decode cX11_placeBy 12 = .ok (.getfield 28, 3) := by decide +kernel
theorem dX11_placeBy_15 : decode cX11_placeBy 15 = .ok (.iload_n 3, 1) := by decide +kernel
theorem dX11_placeBy_16 : decode cX11_placeBy 16 = .ok (.iaload, 1) := by decide +kernel
theorem dX11_placeBy_17 : decode cX11_placeBy 17 = .ok (.iload_n 1, 1) := by decide +kernel
theorem dX11_placeBy_18 : decode cX11_placeBy 18 = .ok (.iload_n 2, 1) := by decide +kernel
theorem dX11_placeBy_19 : decode cX11_placeBy 19 = .ok (.invokevirtual 214, 3) := by decide +kernel
theorem dX11_placeBy_22 : decode cX11_placeBy 22 = .ok (.ifCond .eq 9, 3) := by decide +kernel
theorem dX11_placeBy_25 : decode cX11_placeBy 25 = .ok (.iinc 3 1, 3) := by decide +kernel
theorem dX11_placeBy_28 : decode cX11_placeBy 28 = .ok (.goto (-26), 3) := by decide +kernel
theorem dX11_placeBy_31 : decode cX11_placeBy 31 = .ok (.iload_n 3, 1) := by decide +kernel
theorem dX11_placeBy_32 : decode cX11_placeBy 32 = .ok (.ireturn, 1) := by decide +kernel
set_option maxHeartbeats 4000000 in
set_option maxRecDepth 100000 in
theorem kX11_placeBy (l : Launch) (z : Nat) (D : va_G) (cA : Nat → ClassId) (a0 : Nat) (x1 : Int32) (x2 : Int32) (M : Mem) (K : Int32 → Prop) (h : PX11_placeBy a0 x1 x2 M K) : Met l yX11_placeBy (.code yX11_placeBy cX11_placeBy 4 (some .int) :: gtbl) ({ frames := 3, cells := 0, slots := 0, locals := 73 } : Room) (va_Pc [.ref a0, .int x1, .int x2] (xB z D cA M)) (va_Qi (fun r M1 => M1 = M ∧ K r) (xWd z D cA) (xA z)) 0 0 (xA z) := by
  refine x_met (by decide +kernel) (Nat.le_of_ble_eq_true rfl) (L0 := [(0, .ref a0), (1, .int x1), (2, .int x2)]) rfl ?_
  intro p e s m args below meth c E hr hlk hnm
  have E : xE RX11 cX11_placeBy 4 D cA p s m args c := E
  replace h := h.2
  refine x_iconst (v := (J 0)) E dX11_placeBy_0 (by decide) ?_
  refine x_istore_n (L' := [(3, .int (J 0)), (0, .ref a0), (1, .int x1), (2, .int x2)]) E dX11_placeBy_1 rfl (by decide) rfl ?_
  refine x_sub (L' := [(0, .ref a0), (1, .int x1), (2, .int x2), (3, .int (J 0))]) [1, 2, 3, 0] rfl ?_
  refine lp_sound (T := fun sv => xG p l e ({ frames := 3, cells := 0, slots := 0, locals := 73 } : Room) s m args below meth c (MQ below (va_Qi (fun r M1 => M1 = M ∧ K r) (xWd z D cA) (xA z)) args s 0 0 (xA z)) 4 z D cA M (0) (0) 2 [(0, .ref a0), (1, .int x1), (2, .int x2), (3, .int sv)] []) ?_ (J 0) h
  clear h
  intro kc2 hk2 sv h
  obtain ⟨x3, esv⟩ : ∃ y, y = sv := ⟨_, rfl⟩
  subst esv
  replace h : CX11_placeBy_2 K M a0 x1 x2 kc2 x3 := h
  try dsimp only
  refine x_iload_n E dX11_placeBy_2 rfl 3 rfl ?_
  refine x_aload_n E dX11_placeBy_3 rfl 0 rfl ?_
  obtain ⟨hT, v1, hv, h⟩ := h
  refine x_get E flX11_222 dX11_placeBy_4 hT hv ?_
  clear hT hv
  refine x_icmp_ge (tgt := 31) E dX11_placeBy_7 (by decide) (fun c2 => ?_) (fun c2 => ?_)
  · replace h := xbr_t h c2
    clear c2
    refine x_iload_n E dX11_placeBy_31 rfl 3 rfl ?_
    exact x_iret E hr hlk dX11_placeBy_32 ⟨rfl, h⟩
  · replace h := xbr_f h c2
    clear c2
    refine x_aload_n E dX11_placeBy_10 rfl 0 rfl ?_
    refine x_aload_n E dX11_placeBy_11 rfl 0 rfl ?_
    obtain ⟨hT, q3, hv, h⟩ := h
    refine x_get E flX11_28 dX11_placeBy_12 hT hv ?_
    clear hT hv
    refine x_iload_n E dX11_placeBy_15 rfl 3 rfl ?_
    obtain ⟨hT, hi, v4, hv, h⟩ := h
    refine x_iald E dX11_placeBy_16 hT hi hv ?_
    clear hT hi hv
    refine x_iload_n E dX11_placeBy_17 rfl 1 rfl ?_
    refine x_iload_n E dX11_placeBy_18 rfl 2 rfl ?_
    refine x_callVi (T := TX11) (N := 32) (t := 12) (As := [.int v4, .int x1, .int x2]) E mlX11_214 inX11_isAhead seX11_isAhead rfl ⟨by decide, by decide⟩ (tX11_isAhead h) (kX11_isAhead l z D cA a0 v4 x1 x2 M _ h) rfl ⟨rfl, rfl⟩ ⟨Nat.le_of_ble_eq_true rfl, Nat.le_of_ble_eq_true rfl⟩ ⟨(Nat.le_of_ble_eq_true rfl), (Nat.le_of_ble_eq_true rfl)⟩ (Nat.le_of_ble_eq_true rfl) rfl dX11_placeBy_19 (x_pure (fun r5 h => ?_))
    refine x_if_eq (tgt := 31) E dX11_placeBy_22 (by decide) (fun c7 => ?_) (fun c7 => ?_)
    · replace h := xbr_t h c7
      clear c7
      refine x_iload_n E dX11_placeBy_31 rfl 3 rfl ?_
      exact x_iret E hr hlk dX11_placeBy_32 ⟨rfl, h⟩
    · replace h := xbr_f h c7
      clear c7
      refine x_iinc (v := (x3 + (J 1))) (L' := [(3, .int (x3 + (J 1))), (0, .ref a0), (1, .int x1), (2, .int x2)]) E dX11_placeBy_25 3 rfl rfl (by decide) rfl ?_
      refine x_goto (tgt := 2) E dX11_placeBy_28 (by decide) ?_
      refine x_sub (L' := [(0, .ref a0), (1, .int x1), (2, .int x2), (3, .int (x3 + (J 1)))]) [1, 2, 3, 0] rfl ?_
      exact hk2 (x3 + (J 1)) h
theorem dX11_shelfBy_0 : decode cX11_shelfBy 0 = .ok (.aload_n 0, 1) := by decide +kernel
theorem dX11_shelfBy_1 : decode cX11_shelfBy 1 = .ok (.getfield 222, 3) := by decide +kernel
theorem dX11_shelfBy_4 : decode cX11_shelfBy 4 = .ok (.ifCond .ne 7, 3) := by decide +kernel
theorem dX11_shelfBy_7 : decode cX11_shelfBy 7 = .ok (.iconst 0, 1) := by decide +kernel
theorem dX11_shelfBy_8 : decode cX11_shelfBy 8 = .ok (.goto 25, 3) := by decide +kernel
theorem dX11_shelfBy_11 : decode cX11_shelfBy 11 = .ok (.aload_n 0, 1) := by decide +kernel
theorem dX11_shelfBy_12 : decode cX11_shelfBy 12 = .ok (.iload_n 1, 1) := by decide +kernel
theorem dX11_shelfBy_13 : decode cX11_shelfBy 13 = .ok (.aload_n 0, 1) := by decide +kernel
theorem dX11_shelfBy_14 : decode cX11_shelfBy 14 = .ok (.getfield 222, 3) := by decide +kernel
theorem dX11_shelfBy_17 : decode cX11_shelfBy 17 = .ok (.if_icmp .ge 7, 3) := by decide +kernel
theorem dX11_shelfBy_20 : decode cX11_shelfBy 20 = .ok (.iload_n 1, 1) := by decide +kernel
theorem dX11_shelfBy_21 : decode cX11_shelfBy 21 = .ok (.goto 9, 3) := by decide +kernel
theorem dX11_shelfBy_24 : decode cX11_shelfBy 24 = .ok (.aload_n 0, 1) := by decide +kernel
theorem dX11_shelfBy_25 : decode cX11_shelfBy 25 = .ok (.getfield 222, 3) := by decide +kernel
theorem dX11_shelfBy_28 : decode cX11_shelfBy 28 = .ok (.iconst 1, 1) := by decide +kernel
theorem dX11_shelfBy_29 : decode cX11_shelfBy 29 = .ok (.isub, 1) := by decide +kernel
theorem dX11_shelfBy_30 : decode cX11_shelfBy 30 = .ok (.invokevirtual 174, 3) := by decide +kernel
theorem dX11_shelfBy_33 : decode cX11_shelfBy 33 = .ok (.ireturn, 1) := by decide +kernel
set_option maxHeartbeats 4000000 in
set_option maxRecDepth 100000 in
theorem kX11_shelfBy (l : Launch) (z : Nat) (D : va_G) (cA : Nat → ClassId) (a0 : Nat) (x1 : Int32) (M : Mem) (K : Int32 → Prop) (h : PX11_shelfBy a0 x1 M K) : Met l yX11_shelfBy (.code yX11_shelfBy cX11_shelfBy 2 (some .int) :: gtbl) ({ frames := 1, cells := 0, slots := 0, locals := 23 } : Room) (va_Pc [.ref a0, .int x1] (xB z D cA M)) (va_Qi (fun r M1 => M1 = M ∧ K r) (xWd z D cA) (xA z)) 0 0 (xA z) := by
  refine x_met (by decide +kernel) (Nat.le_of_ble_eq_true rfl) (L0 := [(0, .ref a0), (1, .int x1)]) rfl ?_
  intro p e s m args below meth c E hr hlk hnm
  have E : xE RX11 cX11_shelfBy 2 D cA p s m args c := E
  have hJ30 : ∀ (s0 : Int32) (s1 : Nat), JX11_shelfBy_30 K M s0 s1 → xG p l e ({ frames := 1, cells := 0, slots := 0, locals := 23 } : Room) s m args below meth c (MQ below (va_Qi (fun r M1 => M1 = M ∧ K r) (xWd z D cA) (xA z)) args s 0 0 (xA z)) 2 z D cA M (0) (0) 30 [] [.int s0, .ref s1] := by
    intro s0 s1 h
    refine x_callVi (T := TX11) (N := 32) (t := 12) (As := [.int s0]) E mlX11_174 inX11_shelfOf seX11_shelfOf rfl ⟨by decide, by decide⟩ (tX11_shelfOf h) (kX11_shelfOf l z D cA s1 s0 M _ h) rfl ⟨rfl, rfl⟩ ⟨Nat.le_of_ble_eq_true rfl, Nat.le_of_ble_eq_true rfl⟩ ⟨(Nat.le_of_ble_eq_true rfl), (Nat.le_of_ble_eq_true rfl)⟩ (Nat.le_of_ble_eq_true rfl) rfl dX11_shelfBy_30 (x_pure (fun r6 h => ?_))
    exact x_iret E hr hlk dX11_shelfBy_33 ⟨rfl, h⟩
  replace h := h.2
  refine x_aload_n E dX11_shelfBy_0 rfl 0 rfl ?_
  obtain ⟨hT, v1, hv, h⟩ := h
  refine x_get E flX11_222 dX11_shelfBy_1 hT hv ?_
  clear hT hv
  refine x_if_ne (tgt := 11) E dX11_shelfBy_4 (by decide) (fun c2 => ?_) (fun c2 => ?_)
  · replace h := xbr_f h c2
    clear c2
    refine x_aload_n E dX11_shelfBy_11 rfl 0 rfl ?_
    refine x_iload_n E dX11_shelfBy_12 rfl 1 rfl ?_
    refine x_aload_n E dX11_shelfBy_13 rfl 0 rfl ?_
    obtain ⟨hT, v3, hv, h⟩ := h
    refine x_get E flX11_222 dX11_shelfBy_14 hT hv ?_
    clear hT hv
    refine x_icmp_ge (tgt := 24) E dX11_shelfBy_17 (by decide) (fun c4 => ?_) (fun c4 => ?_)
    · replace h := xbr_t h c4
      clear c4
      refine x_aload_n E dX11_shelfBy_24 rfl 0 rfl ?_
      obtain ⟨hT, v5, hv, h⟩ := h
      refine x_get E flX11_222 dX11_shelfBy_25 hT hv ?_
      clear hT hv
      refine x_iconst (v := (J 1)) E dX11_shelfBy_28 (by decide) ?_
      refine x_isub E dX11_shelfBy_29 ?_
      refine x_sub (L' := []) [] rfl ?_
      exact hJ30 (v5 - (J 1)) a0 h
    · replace h := xbr_f h c4
      clear c4
      refine x_iload_n E dX11_shelfBy_20 rfl 1 rfl ?_
      refine x_goto (tgt := 30) E dX11_shelfBy_21 (by decide) ?_
      refine x_sub (L' := []) [] rfl ?_
      exact hJ30 x1 a0 h
  · replace h := xbr_t h c2
    clear c2
    refine x_iconst (v := (J 0)) E dX11_shelfBy_7 (by decide) ?_
    refine x_goto (tgt := 33) E dX11_shelfBy_8 (by decide) ?_
    exact x_iret E hr hlk dX11_shelfBy_33 ⟨rfl, h⟩
theorem dX11_push_0 : decode cX11_push 0 = .ok (.iload_n 1, 1) := by decide +kernel
theorem dX11_push_1 : decode cX11_push 1 = .ok (.istore_n 2, 1) := by decide +kernel
theorem dX11_push_2 : decode cX11_push 2 = .ok (.iload_n 2, 1) := by decide +kernel
theorem dX11_push_3 : decode cX11_push 3 = .ok (.bipush 8, 2) := by decide +kernel
theorem dX11_push_5 : decode cX11_push 5 = .ok (.if_icmp .ge 50, 3) := by decide +kernel
theorem dX11_push_8 : decode cX11_push 8 = .ok (.aload_n 0, 1) := by decide +kernel
theorem dX11_push_9 : decode cX11_push 9 = .ok (.iload_n 2, 1) := by decide +kernel
theorem dX11_push_10 : decode cX11_push 10 = .ok (.invokevirtual 239, 3) := by decide +kernel
theorem dX11_push_13 : decode cX11_push 13 = .ok (.ifCond .ge 36, 3) := by decide +kernel
theorem dX11_push_16 : decode cX11_push 16 = .ok (.iload_n 2, 1) := by decide +kernel
theorem dX11_push_17 : decode cX11_push 17 = .ok (.bipush 7, 2) := by decide +kernel
theorem dX11_push_19 : decode cX11_push 19 = .ok (.if_icmp .ne 5, 3) := by decide +kernel
theorem dX11_push_22 : decode cX11_push 22 = .ok (.iconst 0, 1) := by decide +kernel
theorem dX11_push_23 : decode cX11_push 23 = .ok (.ireturn, 1) := by decide +kernel
theorem dX11_push_24 : decode cX11_push 24 = .ok (.aload_n 0, 1) := by decide +kernel
theorem dX11_push_25 : decode cX11_push 25 = .ok (.getfield 31, 3) := by decide +kernel
theorem dX11_push_28 : decode cX11_push 28 = .ok (.iload_n 2, 1) := by decide +kernel
theorem dX11_push_29 : decode cX11_push 29 = .ok (.dup2, 1) := by decide +kernel
theorem dX11_push_30 : decode cX11_push 30 = .ok (.iaload, 1) := by decide +kernel
theorem dX11_push_31 : decode cX11_push 31 = .ok (.iconst 1, 1) := by decide +kernel
theorem dX11_push_32 : decode cX11_push 32 = .ok (.isub, 1) := by decide +kernel
theorem dX11_push_33 : decode cX11_push 33 = .ok (.iastore, 1) := by decide +kernel
theorem dX11_push_34 : decode cX11_push 34 = .ok (.aload_n 0, 1) := by decide +kernel
theorem dX11_push_35 : decode cX11_push 35 = .ok (.getfield 31, 3) := by decide +kernel
theorem dX11_push_38 : decode cX11_push 38 = .ok (.iload_n 2, 1) := by decide +kernel
theorem dX11_push_39 : decode cX11_push 39 = .ok (.iconst 1, 1) := by decide +kernel
theorem dX11_push_40 : decode cX11_push 40 = .ok (.iadd, 1) := by decide +kernel
theorem dX11_push_41 : decode cX11_push 41 = .ok (.dup2, 1) := by decide +kernel
theorem dX11_push_42 : decode cX11_push 42 = .ok (.iaload, 1) := by decide +kernel
theorem dX11_push_43 : decode cX11_push 43 = .ok (.iconst 1, 1) := by decide +kernel
theorem dX11_push_44 : decode cX11_push 44 = .ok (.iadd, 1) := by decide +kernel
theorem dX11_push_45 : decode cX11_push 45 = .ok (.iastore, 1) := by decide +kernel
theorem dX11_push_46 : decode cX11_push 46 = .ok (.goto (-38), 3) := by decide +kernel
theorem dX11_push_49 : decode cX11_push 49 = .ok (.iinc 2 1, 3) := by decide +kernel
theorem dX11_push_52 : decode cX11_push 52 = .ok (.goto (-50), 3) := by decide +kernel
theorem dX11_push_55 : decode cX11_push 55 = .ok (.iconst 1, 1) := by decide +kernel
theorem dX11_push_56 : decode cX11_push 56 = .ok (.ireturn, 1) := by decide +kernel
set_option maxHeartbeats 4000000 in
set_option maxRecDepth 100000 in
theorem kX11_push (l : Launch) (z : Nat) (D : va_G) (cA : Nat → ClassId) (a0 : Nat) (x1 : Int32) (M : Mem) (K : Int32 → Mem → Prop) (h : PX11_push a0 x1 M K) : Met l yX11_push (.code yX11_push cX11_push 3 (some .boolean) :: gtbl) ({ frames := 3, cells := 0, slots := 0, locals := 68 } : Room) (va_Pc [.ref a0, .int x1] (xB z D cA M)) (va_Qi K (xWd z D cA) (xA z)) 0 0 (xA z) := by
  refine x_met (by decide +kernel) (Nat.le_of_ble_eq_true rfl) (L0 := [(0, .ref a0), (1, .int x1)]) rfl ?_
  intro p e s m args below meth c E hr hlk hnm
  have E : xE RX11 cX11_push 3 D cA p s m args c := E
  replace h := h.2
  refine x_iload_n E dX11_push_0 rfl 1 rfl ?_
  refine x_istore_n (L' := [(2, .int x1), (0, .ref a0), (1, .int x1)]) E dX11_push_1 rfl (by decide) rfl ?_
  refine x_sub (L' := [(0, .ref a0), (2, .int x1)]) [1, 0] rfl ?_
  refine lp_sound (T := fun sv => xG p l e ({ frames := 3, cells := 0, slots := 0, locals := 68 } : Room) s m args below meth c (MQ below (va_Qi K (xWd z D cA) (xA z)) args s 0 0 (xA z)) 3 z D cA sv.1 (0) (0) 2 [(0, .ref a0), (2, .int sv.2)] []) ?_ (M, x1) h
  clear h
  intro kc2 hk2 sv h
  obtain ⟨M, x2⟩ := sv
  replace h : CX11_push_2 K a0 kc2 M x2 := h
  try dsimp only
  refine x_iload_n E dX11_push_2 rfl 1 rfl ?_
  refine x_bipush (v := (J 8)) E dX11_push_3 (by decide) ?_
  refine x_icmp_ge (tgt := 55) E dX11_push_5 (by decide) (fun c1 => ?_) (fun c1 => ?_)
  · replace h := xbr_t h c1
    clear c1
    refine x_iconst (v := (J 1)) E dX11_push_55 (by decide) ?_
    exact x_zret E hr hlk dX11_push_56 h.1 h.2
  · replace h := xbr_f h c1
    clear c1
    refine lp_sound (T := fun sv => xG p l e ({ frames := 3, cells := 0, slots := 0, locals := 68 } : Room) s m args below meth c (MQ below (va_Qi K (xWd z D cA) (xA z)) args s 0 0 (xA z)) 3 z D cA sv (0) (0) 8 [(0, .ref a0), (2, .int x2)] []) ?_ M h
    clear h
    intro kc8 hk8 sv h
    obtain ⟨M, esv⟩ : ∃ y, y = sv := ⟨_, rfl⟩
    subst esv
    replace h : CX11_push_8 K kc2 a0 x2 kc8 M := h
    try dsimp only
    refine x_aload_n E dX11_push_8 rfl 0 rfl ?_
    refine x_iload_n E dX11_push_9 rfl 1 rfl ?_
    refine x_callVi (T := TX11) (N := 32) (t := 12) (As := [.int x2]) E mlX11_239 inX11_roomOn seX11_roomOn rfl ⟨by decide, by decide⟩ (tX11_roomOn h) (kX11_roomOn l z D cA a0 x2 M _ h) rfl ⟨rfl, rfl⟩ ⟨Nat.le_of_ble_eq_true rfl, Nat.le_of_ble_eq_true rfl⟩ ⟨(Nat.le_of_ble_eq_true rfl), (Nat.le_of_ble_eq_true rfl)⟩ (Nat.le_of_ble_eq_true rfl) rfl dX11_push_10 (x_pure (fun r2 h => ?_))
    refine x_if_ge (tgt := 49) E dX11_push_13 (by decide) (fun c4 => ?_) (fun c4 => ?_)
    · replace h := xbr_t h c4
      clear c4
      refine x_iinc (v := (x2 + (J 1))) (L' := [(2, .int (x2 + (J 1))), (0, .ref a0)]) E dX11_push_49 1 rfl rfl (by decide) rfl ?_
      refine x_goto (tgt := 2) E dX11_push_52 (by decide) ?_
      refine x_sub (L' := [(0, .ref a0), (2, .int (x2 + (J 1)))]) [1, 0] rfl ?_
      exact hk2 (M, (x2 + (J 1))) h
    · replace h := xbr_f h c4
      clear c4
      refine x_iload_n E dX11_push_16 rfl 1 rfl ?_
      refine x_bipush (v := (J 7)) E dX11_push_17 (by decide) ?_
      refine x_icmp_ne (tgt := 24) E dX11_push_19 (by decide) (fun c5 => ?_) (fun c5 => ?_)
      · replace h := xbr_f h c5
        clear c5
        refine x_aload_n E dX11_push_24 rfl 0 rfl ?_
        obtain ⟨hT, q6, hv, h⟩ := h
        refine x_get E flX11_31 dX11_push_25 hT hv ?_
        clear hT hv
        refine x_iload_n E dX11_push_28 rfl 1 rfl ?_
        refine x_dup2 E dX11_push_29 rfl rfl ?_
        obtain ⟨hT, hi, v7, hv, h⟩ := h
        refine x_iald E dX11_push_30 hT hi hv ?_
        clear hT hi hv
        refine x_iconst (v := (J 1)) E dX11_push_31 (by decide) ?_
        refine x_isub E dX11_push_32 ?_
        obtain ⟨hT, hi, h⟩ := h
        refine x_iast E dX11_push_33 hT hi (fun M8 eM8 => ?_)
        replace h := h M8 eM8
        clear hT hi eM8
        refine x_aload_n E dX11_push_34 rfl 0 rfl ?_
        obtain ⟨hT, q9, hv, h⟩ := h
        refine x_get E flX11_31 dX11_push_35 hT hv ?_
        clear hT hv
        refine x_iload_n E dX11_push_38 rfl 1 rfl ?_
        refine x_iconst (v := (J 1)) E dX11_push_39 (by decide) ?_
        refine x_iadd E dX11_push_40 ?_
        refine x_dup2 E dX11_push_41 rfl rfl ?_
        obtain ⟨hT, hi, v10, hv, h⟩ := h
        refine x_iald E dX11_push_42 hT hi hv ?_
        clear hT hi hv
        refine x_iconst (v := (J 1)) E dX11_push_43 (by decide) ?_
        refine x_iadd E dX11_push_44 ?_
        obtain ⟨hT, hi, h⟩ := h
        refine x_iast E dX11_push_45 hT hi (fun M11 eM11 => ?_)
        replace h := h M11 eM11
        clear hT hi eM11
        refine x_goto (tgt := 8) E dX11_push_46 (by decide) ?_
        exact hk8 M11 h
      · replace h := xbr_t h c5
        clear c5
        refine x_iconst (v := (J 0)) E dX11_push_22 (by decide) ?_
        exact x_zret E hr hlk dX11_push_23 h.1 h.2
theorem dX11_putNow_0 : decode cX11_putNow 0 = .ok (.aload_n 0, 1) := by decide +kernel
theorem dX11_putNow_1 : decode cX11_putNow 1 = .ok (.iload_n 1, 1) := by decide +kernel
theorem dX11_putNow_2 : decode cX11_putNow 2 = .ok (.iload_n 2, 1) := by decide +kernel
theorem dX11_putNow_3 : decode cX11_putNow 3 = .ok (.invokevirtual 249, 3) := by decide +kernel
theorem dX11_putNow_6 : decode cX11_putNow 6 = .ok (.istore_n 3, 1) := by decide +kernel
theorem dX11_putNow_7 : decode cX11_putNow 7 = .ok (.aload_n 0, 1) := by decide +kernel
theorem dX11_putNow_8 : decode cX11_putNow 8 = .ok (.iload_n 3, 1) := by decide +kernel
theorem dX11_putNow_9 : decode cX11_putNow 9 = .ok (.invokevirtual 252, 3) := by decide +kernel
theorem dX11_putNow_12 : decode cX11_putNow 12 = .ok (.istore 4, 2) := by decide +kernel
theorem dX11_putNow_14 : decode cX11_putNow 14 = .ok (.aload_n 0, 1) := by decide +kernel
theorem dX11_putNow_15 : decode cX11_putNow 15 = .ok (.iload_n 1, 1) := by decide +kernel
theorem dX11_putNow_16 : decode cX11_putNow 16 = .ok (.iload 4, 2) := by decide +kernel
theorem dX11_putNow_18 : decode cX11_putNow 18 = .ok (.iload_n 3, 1) := by decide +kernel
theorem dX11_putNow_19 : decode cX11_putNow 19 = .ok (.invokevirtual 242, 3) := by decide +kernel
theorem dX11_putNow_22 : decode cX11_putNow 22 = .ok (.aload_n 0, 1) := by decide +kernel
theorem dX11_putNow_23 : decode cX11_putNow 23 = .ok (.iload 4, 2) := by decide +kernel
theorem dX11_putNow_25 : decode cX11_putNow 25 = .ok (.invokevirtual 255, 3) := by decide +kernel
theorem dX11_putNow_28 : decode cX11_putNow 28 = .ok (.ireturn, 1) := by decide +kernel
set_option maxHeartbeats 4000000 in
set_option maxRecDepth 100000 in
theorem kX11_putNow (l : Launch) (z : Nat) (D : va_G) (cA : Nat → ClassId) (a0 : Nat) (x1 : Int32) (x2 : Int32) (M : Mem) (K : Int32 → Mem → Prop) (h : PX11_putNow a0 x1 x2 M K) : Met l yX11_putNow (.code yX11_putNow cX11_putNow 5 (some .boolean) :: gtbl) ({ frames := 4, cells := 0, slots := 0, locals := 96 } : Room) (va_Pc [.ref a0, .int x1, .int x2] (xB z D cA M)) (va_Qi K (xWd z D cA) (xA z)) 0 0 (xA z) := by
  refine x_met (by decide +kernel) (Nat.le_of_ble_eq_true rfl) (L0 := [(0, .ref a0), (1, .int x1), (2, .int x2)]) rfl ?_
  intro p e s m args below meth c E hr hlk hnm
  have E : xE RX11 cX11_putNow 5 D cA p s m args c := E
  replace h := h.2
  refine x_aload_n E dX11_putNow_0 rfl 0 rfl ?_
  refine x_iload_n E dX11_putNow_1 rfl 1 rfl ?_
  refine x_iload_n E dX11_putNow_2 rfl 2 rfl ?_
  refine x_callVi (T := TX11) (N := 32) (t := 12) (As := [.int x1, .int x2]) E mlX11_249 inX11_placeBy seX11_placeBy rfl ⟨by decide, by decide⟩ (tX11_placeBy h) (kX11_placeBy l z D cA a0 x1 x2 M _ h) rfl ⟨rfl, rfl⟩ ⟨Nat.le_of_ble_eq_true rfl, Nat.le_of_ble_eq_true rfl⟩ ⟨(Nat.le_of_ble_eq_true rfl), (Nat.le_of_ble_eq_true rfl)⟩ (Nat.le_of_ble_eq_true rfl) rfl dX11_putNow_3 (x_pure (fun r1 h => ?_))
  refine x_istore_n (L' := [(3, .int r1), (0, .ref a0), (1, .int x1), (2, .int x2)]) E dX11_putNow_6 rfl (by decide) rfl ?_
  refine x_aload_n E dX11_putNow_7 rfl 1 rfl ?_
  refine x_iload_n E dX11_putNow_8 rfl 0 rfl ?_
  refine x_callVi (T := TX11) (N := 32) (t := 12) (As := [.int r1]) E mlX11_252 inX11_shelfBy seX11_shelfBy rfl ⟨by decide, by decide⟩ (tX11_shelfBy h) (kX11_shelfBy l z D cA a0 r1 M _ h) rfl ⟨rfl, rfl⟩ ⟨Nat.le_of_ble_eq_true rfl, Nat.le_of_ble_eq_true rfl⟩ ⟨(Nat.le_of_ble_eq_true rfl), (Nat.le_of_ble_eq_true rfl)⟩ (Nat.le_of_ble_eq_true rfl) rfl dX11_putNow_9 (x_pure (fun r3 h => ?_))
  refine x_istore (L' := [(4, .int r3), (3, .int r1), (0, .ref a0), (1, .int x1), (2, .int x2)]) E dX11_putNow_12 (by decide) rfl ?_
  refine x_aload_n E dX11_putNow_14 rfl 2 rfl ?_
  refine x_iload_n E dX11_putNow_15 rfl 3 rfl ?_
  refine x_iload E dX11_putNow_16 0 rfl ?_
  refine x_iload_n E dX11_putNow_18 rfl 1 rfl ?_
  refine x_callVv (T := TX11) (N := 32) (t := 12) (As := [.int x1, .int r3, .int r1]) E mlX11_242 inX11_insert seX11_insert rfl ⟨by decide, by decide⟩ (tX11_insert h) (kX11_insert l z D cA a0 x1 r3 r1 M _ h) rfl ⟨rfl, rfl⟩ ⟨Nat.le_of_ble_eq_true rfl, Nat.le_of_ble_eq_true rfl⟩ ⟨(Nat.le_of_ble_eq_true rfl), (Nat.le_of_ble_eq_true rfl)⟩ (Nat.le_of_ble_eq_true rfl) rfl dX11_putNow_19 (fun M6 h => ?_)
  refine x_aload_n E dX11_putNow_22 rfl 2 rfl ?_
  refine x_iload E dX11_putNow_23 0 rfl ?_
  refine x_callVi (T := TX11) (N := 32) (t := 12) (As := [.int r3]) E mlX11_255 inX11_push seX11_push rfl ⟨by decide, by decide⟩ (tX11_push h) (kX11_push l z D cA a0 r3 M6 _ h) rfl ⟨rfl, rfl⟩ ⟨Nat.le_of_ble_eq_true rfl, Nat.le_of_ble_eq_true rfl⟩ ⟨(Nat.le_of_ble_eq_true rfl), (Nat.le_of_ble_eq_true rfl)⟩ (Nat.le_of_ble_eq_true rfl) rfl dX11_putNow_25 (fun r7 M8 h => ?_)
  exact x_zret E hr hlk dX11_putNow_28 h.1 h.2
theorem dX11_put_0 : decode cX11_put 0 = .ok (.aload_n 0, 1) := by decide +kernel
theorem dX11_put_1 : decode cX11_put 1 = .ok (.iload_n 1, 1) := by decide +kernel
theorem dX11_put_2 : decode cX11_put 2 = .ok (.invokevirtual 163, 3) := by decide +kernel
theorem dX11_put_5 : decode cX11_put 5 = .ok (.ifCond .eq 10, 3) := by decide +kernel
theorem dX11_put_8 : decode cX11_put 8 = .ok (.iload_n 2, 1) := by decide +kernel
theorem dX11_put_9 : decode cX11_put 9 = .ok (.invokestatic 211, 3) := by decide +kernel
theorem dX11_put_12 : decode cX11_put 12 = .ok (.ifCond .ne 7, 3) := by decide +kernel
theorem dX11_put_15 : decode cX11_put 15 = .ok (.sipush (-1001), 3) := by decide +kernel
theorem dX11_put_18 : decode cX11_put 18 = .ok (.ireturn, 1) := by decide +kernel
theorem dX11_put_19 : decode cX11_put 19 = .ok (.aload_n 0, 1) := by decide +kernel
theorem dX11_put_20 : decode cX11_put 20 = .ok (.iload_n 1, 1) := by decide +kernel
theorem dX11_put_21 : decode cX11_put 21 = .ok (.invokevirtual 167, 3) := by decide +kernel
theorem dX11_put_24 : decode cX11_put 24 = .ok (.ifCond .lt 7, 3) := by decide +kernel
theorem dX11_put_27 : decode cX11_put 27 = .ok (.sipush (-1003), 3) := by decide +kernel
theorem dX11_put_30 : decode cX11_put 30 = .ok (.ireturn, 1) := by decide +kernel
theorem dX11_put_31 : decode cX11_put 31 = .ok (.aload_n 0, 1) := by decide +kernel
theorem dX11_put_32 : decode cX11_put 32 = .ok (.invokevirtual 258, 3) := by decide +kernel
theorem dX11_put_35 : decode cX11_put 35 = .ok (.aload_n 0, 1) := by decide +kernel
theorem dX11_put_36 : decode cX11_put 36 = .ok (.iload_n 1, 1) := by decide +kernel
theorem dX11_put_37 : decode cX11_put 37 = .ok (.iload_n 2, 1) := by decide +kernel
theorem dX11_put_38 : decode cX11_put 38 = .ok (.invokevirtual 261, 3) := by decide +kernel
theorem dX11_put_41 : decode cX11_put 41 = .ok (.ifCond .ne 11, 3) := by decide +kernel
theorem dX11_put_44 : decode cX11_put 44 = .ok (.aload_n 0, 1) := by decide +kernel
theorem dX11_put_45 : decode cX11_put 45 = .ok (.invokevirtual 264, 3) := by decide +kernel
theorem dX11_put_48 : decode cX11_put 48 = .ok (.sipush (-1003), 3) := by decide +kernel
theorem dX11_put_51 : decode cX11_put 51 = .ok (.ireturn, 1) := by decide +kernel
theorem dX11_put_52 : decode cX11_put 52 = .ok (.aload_n 0, 1) := by decide +kernel
theorem dX11_put_53 : decode cX11_put 53 = .ok (.aload_n 0, 1) := by decide +kernel
theorem dX11_put_54 : decode cX11_put 54 = .ok (.iload_n 1, 1) := by decide +kernel
theorem dX11_put_55 : decode cX11_put 55 = .ok (.invokevirtual 167, 3) := by decide +kernel
theorem dX11_put_58 : decode cX11_put 58 = .ok (.invokevirtual 174, 3) := by decide +kernel
theorem dX11_put_61 : decode cX11_put 61 = .ok (.ireturn, 1) := by decide +kernel
set_option maxHeartbeats 4000000 in
set_option maxRecDepth 100000 in
theorem kX11_put (l : Launch) (z : Nat) (D : va_G) (cA : Nat → ClassId) (a0 : Nat) (x1 : Int32) (x2 : Int32) (M : Mem) (K : Int32 → Mem → Prop) (h : PX11_put a0 x1 x2 M K) : Met l yX11_put (.code yX11_put cX11_put 3 (some .int) :: gtbl) ({ frames := 5, cells := 0, slots := 0, locals := 120 } : Room) (va_Pc [.ref a0, .int x1, .int x2] (xB z D cA M)) (va_Qi K (xWd z D cA) (xA z)) 0 0 (xA z) := by
  refine x_met (by decide +kernel) (Nat.le_of_ble_eq_true rfl) (L0 := [(0, .ref a0), (1, .int x1), (2, .int x2)]) rfl ?_
  intro p e s m args below meth c E hr hlk hnm
  have E : xE RX11 cX11_put 3 D cA p s m args c := E
  replace h := h.2
  refine x_aload_n E dX11_put_0 rfl 0 rfl ?_
  refine x_iload_n E dX11_put_1 rfl 1 rfl ?_
  refine x_callVi (T := TX11) (N := 32) (t := 12) (As := [.int x1]) E mlX11_163 inX11_isBook seX11_isBook rfl ⟨by decide, by decide⟩ (tX11_isBook h) (kX11_isBook l z D cA a0 x1 M _ h) rfl ⟨rfl, rfl⟩ ⟨Nat.le_of_ble_eq_true rfl, Nat.le_of_ble_eq_true rfl⟩ ⟨(Nat.le_of_ble_eq_true rfl), (Nat.le_of_ble_eq_true rfl)⟩ (Nat.le_of_ble_eq_true rfl) rfl dX11_put_2 (x_pure (fun r1 h => ?_))
  refine x_if_eq (tgt := 15) E dX11_put_5 (by decide) (fun c3 => ?_) (fun c3 => ?_)
  · replace h := xbr_t h c3
    clear c3
    refine x_sipush (v := (J (-1001))) E dX11_put_15 (by decide) ?_
    exact x_iret E hr hlk dX11_put_18 h
  · replace h := xbr_f h c3
    clear c3
    refine x_iload_n E dX11_put_8 rfl 2 rfl ?_
    refine x_callSi (As := [.int x2]) E mlX11_211 rfl stX11_isReading (kX11_isReading l z D cA x2 M _ h) rfl ⟨rfl, rfl⟩ ⟨Nat.le_of_ble_eq_true rfl, Nat.le_of_ble_eq_true rfl⟩ ⟨(Nat.le_of_ble_eq_true rfl), (Nat.le_of_ble_eq_true rfl)⟩ (Nat.le_of_ble_eq_true rfl) rfl dX11_put_9 (x_pure (fun r4 h => ?_))
    refine x_if_ne (tgt := 19) E dX11_put_12 (by decide) (fun c6 => ?_) (fun c6 => ?_)
    · replace h := xbr_f h c6
      clear c6
      refine x_aload_n E dX11_put_19 rfl 0 rfl ?_
      refine x_iload_n E dX11_put_20 rfl 1 rfl ?_
      refine x_callVi (T := TX11) (N := 32) (t := 12) (As := [.int x1]) E mlX11_167 inX11_placeOf seX11_placeOf rfl ⟨by decide, by decide⟩ (tX11_placeOf h) (kX11_placeOf l z D cA a0 x1 M _ h) rfl ⟨rfl, rfl⟩ ⟨Nat.le_of_ble_eq_true rfl, Nat.le_of_ble_eq_true rfl⟩ ⟨(Nat.le_of_ble_eq_true rfl), (Nat.le_of_ble_eq_true rfl)⟩ (Nat.le_of_ble_eq_true rfl) rfl dX11_put_21 (x_pure (fun r7 h => ?_))
      refine x_if_lt (tgt := 31) E dX11_put_24 (by decide) (fun c9 => ?_) (fun c9 => ?_)
      · replace h := xbr_t h c9
        clear c9
        refine x_aload_n E dX11_put_31 rfl 0 rfl ?_
        refine x_callVv (T := TX11) (N := 32) (t := 12) (As := []) E mlX11_258 inX11_save seX11_save rfl ⟨by decide, by decide⟩ (tX11_save h) (kX11_save l z D cA a0 M _ h) rfl ⟨rfl, rfl⟩ ⟨Nat.le_of_ble_eq_true rfl, Nat.le_of_ble_eq_true rfl⟩ ⟨(Nat.le_of_ble_eq_true rfl), (Nat.le_of_ble_eq_true rfl)⟩ (Nat.le_of_ble_eq_true rfl) rfl dX11_put_32 (fun M11 h => ?_)
        refine x_aload_n E dX11_put_35 rfl 0 rfl ?_
        refine x_iload_n E dX11_put_36 rfl 1 rfl ?_
        refine x_iload_n E dX11_put_37 rfl 2 rfl ?_
        refine x_callVi (T := TX11) (N := 32) (t := 12) (As := [.int x1, .int x2]) E mlX11_261 inX11_putNow seX11_putNow rfl ⟨by decide, by decide⟩ (tX11_putNow h) (kX11_putNow l z D cA a0 x1 x2 M11 _ h) rfl ⟨rfl, rfl⟩ ⟨Nat.le_of_ble_eq_true rfl, Nat.le_of_ble_eq_true rfl⟩ ⟨(Nat.le_of_ble_eq_true rfl), (Nat.le_of_ble_eq_true rfl)⟩ (Nat.le_of_ble_eq_true rfl) rfl dX11_put_38 (fun r12 M13 h => ?_)
        refine x_if_ne (tgt := 52) E dX11_put_41 (by decide) (fun c14 => ?_) (fun c14 => ?_)
        · replace h := xbr_f h c14
          clear c14
          refine x_aload_n E dX11_put_52 rfl 0 rfl ?_
          refine x_aload_n E dX11_put_53 rfl 0 rfl ?_
          refine x_iload_n E dX11_put_54 rfl 1 rfl ?_
          refine x_callVi (T := TX11) (N := 32) (t := 12) (As := [.int x1]) E mlX11_167 inX11_placeOf seX11_placeOf rfl ⟨by decide, by decide⟩ (tX11_placeOf h) (kX11_placeOf l z D cA a0 x1 M13 _ h) rfl ⟨rfl, rfl⟩ ⟨Nat.le_of_ble_eq_true rfl, Nat.le_of_ble_eq_true rfl⟩ ⟨(Nat.le_of_ble_eq_true rfl), (Nat.le_of_ble_eq_true rfl)⟩ (Nat.le_of_ble_eq_true rfl) rfl dX11_put_55 (x_pure (fun r15 h => ?_))
          refine x_callVi (T := TX11) (N := 32) (t := 12) (As := [.int r15]) E mlX11_174 inX11_shelfOf seX11_shelfOf rfl ⟨by decide, by decide⟩ (tX11_shelfOf h) (kX11_shelfOf l z D cA a0 r15 M13 _ h) rfl ⟨rfl, rfl⟩ ⟨Nat.le_of_ble_eq_true rfl, Nat.le_of_ble_eq_true rfl⟩ ⟨(Nat.le_of_ble_eq_true rfl), (Nat.le_of_ble_eq_true rfl)⟩ (Nat.le_of_ble_eq_true rfl) rfl dX11_put_58 (x_pure (fun r17 h => ?_))
          exact x_iret E hr hlk dX11_put_61 h
        · replace h := xbr_t h c14
          clear c14
          refine x_aload_n E dX11_put_44 rfl 0 rfl ?_
          refine x_callVv (T := TX11) (N := 32) (t := 12) (As := []) E mlX11_264 inX11_back seX11_back rfl ⟨by decide, by decide⟩ (tX11_back h) (kX11_back l z D cA a0 M13 _ h) rfl ⟨rfl, rfl⟩ ⟨Nat.le_of_ble_eq_true rfl, Nat.le_of_ble_eq_true rfl⟩ ⟨(Nat.le_of_ble_eq_true rfl), (Nat.le_of_ble_eq_true rfl)⟩ (Nat.le_of_ble_eq_true rfl) rfl dX11_put_45 (fun M20 h => ?_)
          refine x_sipush (v := (J (-1003))) E dX11_put_48 (by decide) ?_
          exact x_iret E hr hlk dX11_put_51 h
      · replace h := xbr_f h c9
        clear c9
        refine x_sipush (v := (J (-1003))) E dX11_put_27 (by decide) ?_
        exact x_iret E hr hlk dX11_put_30 h
    · replace h := xbr_t h c6
      clear c6
      refine x_sipush (v := (J (-1001))) E dX11_put_15 (by decide) ?_
      exact x_iret E hr hlk dX11_put_18 h
theorem dX11_take_0 : decode cX11_take 0 = .ok (.aload_n 0, 1) := by decide +kernel
theorem dX11_take_1 : decode cX11_take 1 = .ok (.iload_n 1, 1) := by decide +kernel
theorem dX11_take_2 : decode cX11_take 2 = .ok (.invokevirtual 163, 3) := by decide +kernel
theorem dX11_take_5 : decode cX11_take 5 = .ok (.ifCond .ne 7, 3) := by decide +kernel
theorem dX11_take_8 : decode cX11_take 8 = .ok (.sipush (-1001), 3) := by decide +kernel
theorem dX11_take_11 : decode cX11_take 11 = .ok (.ireturn, 1) := by decide +kernel
theorem dX11_take_12 : decode cX11_take 12 = .ok (.aload_n 0, 1) := by decide +kernel
theorem dX11_take_13 : decode cX11_take 13 = .ok (.iload_n 1, 1) := by decide +kernel
theorem dX11_take_14 : decode cX11_take 14 = .ok (.invokevirtual 167, 3) := by decide +kernel
theorem dX11_take_17 : decode cX11_take 17 = .ok (.istore_n 2, 1) := by decide +kernel
theorem dX11_take_18 : decode cX11_take 18 = .ok (.iload_n 2, 1) := by decide +kernel
theorem dX11_take_19 : decode cX11_take 19 = .ok (.ifCond .ge 7, 3) := by decide +kernel
theorem dX11_take_22 : decode cX11_take 22 = .ok (.sipush (-1003), 3) := by decide +kernel
theorem dX11_take_25 : decode cX11_take 25 = .ok (.ireturn, 1) := by decide +kernel
theorem dX11_take_26 : decode cX11_take 26 = .ok (.aload_n 0, 1) := by decide +kernel
theorem dX11_take_27 : decode cX11_take 27 = .ok (.iload_n 2, 1) := by decide +kernel
theorem dX11_take_28 : decode cX11_take 28 = .ok (.invokevirtual 174, 3) := by decide +kernel
theorem dX11_take_31 : decode cX11_take 31 = .ok (.istore_n 3, 1) := by decide +kernel
theorem dX11_take_32 : decode cX11_take 32 = .ok (.aload_n 0, 1) := by decide +kernel
theorem dX11_take_33 : decode cX11_take 33 = .ok (.iload_n 2, 1) := by decide +kernel
theorem dX11_take_34 : decode cX11_take 34 = .ok (.invokevirtual 267, 3) := by decide +kernel
theorem dX11_take_37 : decode cX11_take 37 = .ok (.iload_n 3, 1) := by decide +kernel
theorem dX11_take_38 : decode cX11_take 38 = .ok (.ireturn, 1) := by decide +kernel
set_option maxHeartbeats 4000000 in
set_option maxRecDepth 100000 in
theorem kX11_take (l : Launch) (z : Nat) (D : va_G) (cA : Nat → ClassId) (a0 : Nat) (x1 : Int32) (M : Mem) (K : Int32 → Mem → Prop) (h : PX11_take a0 x1 M K) : Met l yX11_take (.code yX11_take cX11_take 4 (some .int) :: gtbl) ({ frames := 2, cells := 0, slots := 0, locals := 46 } : Room) (va_Pc [.ref a0, .int x1] (xB z D cA M)) (va_Qi K (xWd z D cA) (xA z)) 0 0 (xA z) := by
  refine x_met (by decide +kernel) (Nat.le_of_ble_eq_true rfl) (L0 := [(0, .ref a0), (1, .int x1)]) rfl ?_
  intro p e s m args below meth c E hr hlk hnm
  have E : xE RX11 cX11_take 4 D cA p s m args c := E
  replace h := h.2
  refine x_aload_n E dX11_take_0 rfl 0 rfl ?_
  refine x_iload_n E dX11_take_1 rfl 1 rfl ?_
  refine x_callVi (T := TX11) (N := 32) (t := 12) (As := [.int x1]) E mlX11_163 inX11_isBook seX11_isBook rfl ⟨by decide, by decide⟩ (tX11_isBook h) (kX11_isBook l z D cA a0 x1 M _ h) rfl ⟨rfl, rfl⟩ ⟨Nat.le_of_ble_eq_true rfl, Nat.le_of_ble_eq_true rfl⟩ ⟨(Nat.le_of_ble_eq_true rfl), (Nat.le_of_ble_eq_true rfl)⟩ (Nat.le_of_ble_eq_true rfl) rfl dX11_take_2 (x_pure (fun r1 h => ?_))
  refine x_if_ne (tgt := 12) E dX11_take_5 (by decide) (fun c3 => ?_) (fun c3 => ?_)
  · replace h := xbr_f h c3
    clear c3
    refine x_aload_n E dX11_take_12 rfl 0 rfl ?_
    refine x_iload_n E dX11_take_13 rfl 1 rfl ?_
    refine x_callVi (T := TX11) (N := 32) (t := 12) (As := [.int x1]) E mlX11_167 inX11_placeOf seX11_placeOf rfl ⟨by decide, by decide⟩ (tX11_placeOf h) (kX11_placeOf l z D cA a0 x1 M _ h) rfl ⟨rfl, rfl⟩ ⟨Nat.le_of_ble_eq_true rfl, Nat.le_of_ble_eq_true rfl⟩ ⟨(Nat.le_of_ble_eq_true rfl), (Nat.le_of_ble_eq_true rfl)⟩ (Nat.le_of_ble_eq_true rfl) rfl dX11_take_14 (x_pure (fun r4 h => ?_))
    refine x_istore_n (L' := [(2, .int r4), (0, .ref a0), (1, .int x1)]) E dX11_take_17 rfl (by decide) rfl ?_
    refine x_iload_n E dX11_take_18 rfl 0 rfl ?_
    refine x_if_ge (tgt := 26) E dX11_take_19 (by decide) (fun c6 => ?_) (fun c6 => ?_)
    · replace h := xbr_t h c6
      clear c6
      refine x_aload_n E dX11_take_26 rfl 1 rfl ?_
      refine x_iload_n E dX11_take_27 rfl 0 rfl ?_
      refine x_callVi (T := TX11) (N := 32) (t := 12) (As := [.int r4]) E mlX11_174 inX11_shelfOf seX11_shelfOf rfl ⟨by decide, by decide⟩ (tX11_shelfOf h) (kX11_shelfOf l z D cA a0 r4 M _ h) rfl ⟨rfl, rfl⟩ ⟨Nat.le_of_ble_eq_true rfl, Nat.le_of_ble_eq_true rfl⟩ ⟨(Nat.le_of_ble_eq_true rfl), (Nat.le_of_ble_eq_true rfl)⟩ (Nat.le_of_ble_eq_true rfl) rfl dX11_take_28 (x_pure (fun r7 h => ?_))
      refine x_istore_n (L' := [(3, .int r7), (2, .int r4), (0, .ref a0), (1, .int x1)]) E dX11_take_31 rfl (by decide) rfl ?_
      refine x_aload_n E dX11_take_32 rfl 2 rfl ?_
      refine x_iload_n E dX11_take_33 rfl 1 rfl ?_
      refine x_callVv (T := TX11) (N := 32) (t := 12) (As := [.int r4]) E mlX11_267 inX11_remove seX11_remove rfl ⟨by decide, by decide⟩ (tX11_remove h) (kX11_remove l z D cA a0 r4 M _ h) rfl ⟨rfl, rfl⟩ ⟨Nat.le_of_ble_eq_true rfl, Nat.le_of_ble_eq_true rfl⟩ ⟨(Nat.le_of_ble_eq_true rfl), (Nat.le_of_ble_eq_true rfl)⟩ (Nat.le_of_ble_eq_true rfl) rfl dX11_take_34 (fun M10 h => ?_)
      refine x_iload_n E dX11_take_37 rfl 0 rfl ?_
      exact x_iret E hr hlk dX11_take_38 h
    · replace h := xbr_f h c6
      clear c6
      refine x_sipush (v := (J (-1003))) E dX11_take_22 (by decide) ?_
      exact x_iret E hr hlk dX11_take_25 h
  · replace h := xbr_t h c3
    clear c3
    refine x_sipush (v := (J (-1001))) E dX11_take_8 (by decide) ?_
    exact x_iret E hr hlk dX11_take_11 h
theorem dX11_mayStand_0 : decode cX11_mayStand 0 = .ok (.iload_n 1, 1) := by decide +kernel
theorem dX11_mayStand_1 : decode cX11_mayStand 1 = .ok (.bipush 24, 2) := by decide +kernel
theorem dX11_mayStand_3 : decode cX11_mayStand 3 = .ok (.if_icmp .eq 23, 3) := by decide +kernel
theorem dX11_mayStand_6 : decode cX11_mayStand 6 = .ok (.aload_n 0, 1) := by decide +kernel
theorem dX11_mayStand_7 : decode cX11_mayStand 7 = .ok (.aload_n 0, 1) := by decide +kernel
theorem dX11_mayStand_8 : decode cX11_mayStand 8 = .ok (.getfield 28, 3) := by decide +kernel
theorem dX11_mayStand_11 : decode cX11_mayStand 11 = .ok (.iload_n 1, 1) := by decide +kernel
theorem dX11_mayStand_12 : decode cX11_mayStand 12 = .ok (.iaload, 1) := by decide +kernel
theorem dX11_mayStand_13 : decode cX11_mayStand 13 = .ok (.aload_n 0, 1) := by decide +kernel
theorem dX11_mayStand_14 : decode cX11_mayStand 14 = .ok (.getfield 28, 3) := by decide +kernel
theorem dX11_mayStand_17 : decode cX11_mayStand 17 = .ok (.iload_n 2, 1) := by decide +kernel
theorem dX11_mayStand_18 : decode cX11_mayStand 18 = .ok (.iaload, 1) := by decide +kernel
theorem dX11_mayStand_19 : decode cX11_mayStand 19 = .ok (.iconst 0, 1) := by decide +kernel
theorem dX11_mayStand_20 : decode cX11_mayStand 20 = .ok (.invokevirtual 214, 3) := by decide +kernel
theorem dX11_mayStand_23 : decode cX11_mayStand 23 = .ok (.ifCond .eq 7, 3) := by decide +kernel
theorem dX11_mayStand_26 : decode cX11_mayStand 26 = .ok (.iconst 1, 1) := by decide +kernel
theorem dX11_mayStand_27 : decode cX11_mayStand 27 = .ok (.goto 4, 3) := by decide +kernel
theorem dX11_mayStand_30 : decode cX11_mayStand 30 = .ok (.iconst 0, 1) := by decide +kernel
theorem dX11_mayStand_31 : decode cX11_mayStand 31 = .ok (.ireturn, 1) := by decide +kernel
set_option maxHeartbeats 4000000 in
set_option maxRecDepth 100000 in
theorem kX11_mayStand (l : Launch) (z : Nat) (D : va_G) (cA : Nat → ClassId) (a0 : Nat) (x1 : Int32) (x2 : Int32) (M : Mem) (K : Int32 → Prop) (h : PX11_mayStand a0 x1 x2 M K) : Met l yX11_mayStand (.code yX11_mayStand cX11_mayStand 3 (some .boolean) :: gtbl) ({ frames := 3, cells := 0, slots := 0, locals := 73 } : Room) (va_Pc [.ref a0, .int x1, .int x2] (xB z D cA M)) (va_Qi (fun r M1 => M1 = M ∧ K r) (xWd z D cA) (xA z)) 0 0 (xA z) := by
  refine x_met (by decide +kernel) (Nat.le_of_ble_eq_true rfl) (L0 := [(0, .ref a0), (1, .int x1), (2, .int x2)]) rfl ?_
  intro p e s m args below meth c E hr hlk hnm
  have E : xE RX11 cX11_mayStand 3 D cA p s m args c := E
  replace h := h.2
  refine x_iload_n E dX11_mayStand_0 rfl 1 rfl ?_
  refine x_bipush (v := (J 24)) E dX11_mayStand_1 (by decide) ?_
  refine x_icmp_eq (tgt := 26) E dX11_mayStand_3 (by decide) (fun c1 => ?_) (fun c1 => ?_)
  · replace h := xbr_t h c1
    clear c1
    refine x_iconst (v := (J 1)) E dX11_mayStand_26 (by decide) ?_
    refine x_goto (tgt := 31) E dX11_mayStand_27 (by decide) ?_
    exact x_zret E hr hlk dX11_mayStand_31 h.1 ⟨rfl, h.2⟩
  · replace h := xbr_f h c1
    clear c1
    refine x_aload_n E dX11_mayStand_6 rfl 0 rfl ?_
    refine x_aload_n E dX11_mayStand_7 rfl 0 rfl ?_
    obtain ⟨hT, q2, hv, h⟩ := h
    refine x_get E flX11_28 dX11_mayStand_8 hT hv ?_
    clear hT hv
    refine x_iload_n E dX11_mayStand_11 rfl 1 rfl ?_
    obtain ⟨hT, hi, v3, hv, h⟩ := h
    refine x_iald E dX11_mayStand_12 hT hi hv ?_
    clear hT hi hv
    refine x_aload_n E dX11_mayStand_13 rfl 0 rfl ?_
    obtain ⟨hT, q4, hv, h⟩ := h
    refine x_get E flX11_28 dX11_mayStand_14 hT hv ?_
    clear hT hv
    refine x_iload_n E dX11_mayStand_17 rfl 2 rfl ?_
    obtain ⟨hT, hi, v5, hv, h⟩ := h
    refine x_iald E dX11_mayStand_18 hT hi hv ?_
    clear hT hi hv
    refine x_iconst (v := (J 0)) E dX11_mayStand_19 (by decide) ?_
    refine x_callVi (T := TX11) (N := 32) (t := 12) (As := [.int v3, .int v5, .int (J 0)]) E mlX11_214 inX11_isAhead seX11_isAhead rfl ⟨by decide, by decide⟩ (tX11_isAhead h) (kX11_isAhead l z D cA a0 v3 v5 (J 0) M _ h) rfl ⟨rfl, rfl⟩ ⟨Nat.le_of_ble_eq_true rfl, Nat.le_of_ble_eq_true rfl⟩ ⟨(Nat.le_of_ble_eq_true rfl), (Nat.le_of_ble_eq_true rfl)⟩ (Nat.le_of_ble_eq_true rfl) rfl dX11_mayStand_20 (x_pure (fun r6 h => ?_))
    refine x_if_eq (tgt := 30) E dX11_mayStand_23 (by decide) (fun c8 => ?_) (fun c8 => ?_)
    · replace h := xbr_t h c8
      clear c8
      refine x_iconst (v := (J 0)) E dX11_mayStand_30 (by decide) ?_
      exact x_zret E hr hlk dX11_mayStand_31 h.1 ⟨rfl, h.2⟩
    · replace h := xbr_f h c8
      clear c8
      refine x_iconst (v := (J 1)) E dX11_mayStand_26 (by decide) ?_
      refine x_goto (tgt := 31) E dX11_mayStand_27 (by decide) ?_
      exact x_zret E hr hlk dX11_mayStand_31 h.1 ⟨rfl, h.2⟩
theorem dX11_findWrong_0 : decode cX11_findWrong 0 = .ok (.aload_n 0, 1) := by decide +kernel
theorem dX11_findWrong_1 : decode cX11_findWrong 1 = .ok (.getfield 222, 3) := by decide +kernel
theorem dX11_findWrong_4 : decode cX11_findWrong 4 = .ok (.istore_n 1, 1) := by decide +kernel
theorem dX11_findWrong_5 : decode cX11_findWrong 5 = .ok (.iload_n 1, 1) := by decide +kernel
theorem dX11_findWrong_6 : decode cX11_findWrong 6 = .ok (.ifCond .lt 138, 3) := by decide +kernel
theorem dX11_findWrong_9 : decode cX11_findWrong 9 = .ok (.iconst 0, 1) := by decide +kernel
theorem dX11_findWrong_10 : decode cX11_findWrong 10 = .ok (.istore_n 2, 1) := by decide +kernel
theorem dX11_findWrong_11 : decode cX11_findWrong 11 = .ok (.iload_n 2, 1) := by decide +kernel
theorem dX11_findWrong_12 : decode cX11_findWrong 12 = .ok (.bipush 24, 2) := by decide +kernel
theorem dX11_findWrong_14 : decode cX11_findWrong 14 = .ok (.if_icmp .gt 124, 3) := by decide +kernel
theorem dX11_findWrong_17 : decode cX11_findWrong 17 = .ok (.iload_n 2, 1) := by decide +kernel
theorem dX11_findWrong_18 : decode cX11_findWrong 18 = .ok (.bipush 24, 2) := by decide +kernel
theorem dX11_findWrong_20 : decode cX11_findWrong 20 = .ok (.if_icmp .eq 8, 3) := by decide +kernel
theorem dX11_findWrong_23 : decode cX11_findWrong 23 = .ok (.iload_n 2, 1) := by decide +kernel
theorem dX11_findWrong_24 : decode cX11_findWrong 24 = .ok (.iload_n 1, 1) := by decide +kernel
theorem dX11_findWrong_25 : decode cX11_findWrong 25 = .ok (.if_icmp .ge 7, 3) := by decide +kernel
theorem dX11_findWrong_28 : decode cX11_findWrong 28 = .ok (.iconst 1, 1) := by decide +kernel
theorem dX11_findWrong_29 : decode cX11_findWrong 29 = .ok (.goto 4, 3) := by decide +kernel
theorem dX11_findWrong_32 : decode cX11_findWrong 32 = .ok (.iconst 0, 1) := by decide +kernel
theorem dX11_findWrong_33 : decode cX11_findWrong 33 = .ok (.istore_n 3, 1) := by decide +kernel
theorem dX11_findWrong_34 : decode cX11_findWrong 34 = .ok (.iload_n 1, 1) := by decide +kernel
theorem dX11_findWrong_35 : decode cX11_findWrong 35 = .ok (.aload_n 0, 1) := by decide +kernel
theorem dX11_findWrong_36 : decode cX11_findWrong 36 = .ok (.getfield 222, 3) := by decide +kernel
theorem dX11_findWrong_39 : decode cX11_findWrong 39 = .ok (.if_icmp .eq 7, 3) := by decide +kernel
theorem dX11_findWrong_42 : decode cX11_findWrong 42 = .ok (.iload_n 3, 1) := by decide +kernel
theorem dX11_findWrong_43 : decode cX11_findWrong 43 = .ok (.ifCond .ne 7, 3) := by decide +kernel
theorem dX11_findWrong_46 : decode cX11_findWrong 46 = .ok (.iconst 0, 1) := by decide +kernel
theorem dX11_findWrong_47 : decode cX11_findWrong 47 = .ok (.goto 16, 3) := by decide +kernel
theorem dX11_findWrong_50 : decode cX11_findWrong 50 = .ok (.aload_n 0, 1) := by decide +kernel
theorem dX11_findWrong_51 : decode cX11_findWrong 51 = .ok (.getfield 53, 3) := by decide +kernel
theorem dX11_findWrong_54 : decode cX11_findWrong 54 = .ok (.bipush 25, 2) := by decide +kernel
theorem dX11_findWrong_56 : decode cX11_findWrong 56 = .ok (.iload_n 1, 1) := by decide +kernel
theorem dX11_findWrong_57 : decode cX11_findWrong 57 = .ok (.iconst 1, 1) := by decide +kernel
theorem dX11_findWrong_58 : decode cX11_findWrong 58 = .ok (.iadd, 1) := by decide +kernel
theorem dX11_findWrong_59 : decode cX11_findWrong 59 = .ok (.imul, 1) := by decide +kernel
theorem dX11_findWrong_60 : decode cX11_findWrong 60 = .ok (.iload_n 2, 1) := by decide +kernel
theorem dX11_findWrong_61 : decode cX11_findWrong 61 = .ok (.iadd, 1) := by decide +kernel
theorem dX11_findWrong_62 : decode cX11_findWrong 62 = .ok (.iaload, 1) := by decide +kernel
theorem dX11_findWrong_63 : decode cX11_findWrong 63 = .ok (.istore 4, 2) := by decide +kernel
theorem dX11_findWrong_65 : decode cX11_findWrong 65 = .ok (.iload_n 1, 1) := by decide +kernel
theorem dX11_findWrong_66 : decode cX11_findWrong 66 = .ok (.aload_n 0, 1) := by decide +kernel
theorem dX11_findWrong_67 : decode cX11_findWrong 67 = .ok (.getfield 222, 3) := by decide +kernel
theorem dX11_findWrong_70 : decode cX11_findWrong 70 = .ok (.if_icmp .ge 34, 3) := by decide +kernel
theorem dX11_findWrong_73 : decode cX11_findWrong 73 = .ok (.iload_n 3, 1) := by decide +kernel
theorem dX11_findWrong_74 : decode cX11_findWrong 74 = .ok (.ifCond .eq 30, 3) := by decide +kernel
theorem dX11_findWrong_77 : decode cX11_findWrong 77 = .ok (.aload_n 0, 1) := by decide +kernel
theorem dX11_findWrong_78 : decode cX11_findWrong 78 = .ok (.iload_n 2, 1) := by decide +kernel
theorem dX11_findWrong_79 : decode cX11_findWrong 79 = .ok (.iload_n 1, 1) := by decide +kernel
theorem dX11_findWrong_80 : decode cX11_findWrong 80 = .ok (.invokevirtual 270, 3) := by decide +kernel
theorem dX11_findWrong_83 : decode cX11_findWrong 83 = .ok (.ifCond .eq 21, 3) := by decide +kernel
theorem dX11_findWrong_86 : decode cX11_findWrong 86 = .ok (.iconst 1, 1) := by decide +kernel
theorem dX11_findWrong_87 : decode cX11_findWrong 87 = .ok (.aload_n 0, 1) := by decide +kernel
theorem dX11_findWrong_88 : decode cX11_findWrong 88 = .ok (.getfield 53, 3) := by decide +kernel
theorem dX11_findWrong_91 : decode cX11_findWrong 91 = .ok (.bipush 25, 2) := by decide +kernel
theorem dX11_findWrong_93 : decode cX11_findWrong 93 = .ok (.iload_n 1, 1) := by decide +kernel
theorem dX11_findWrong_94 : decode cX11_findWrong 94 = .ok (.iconst 1, 1) := by decide +kernel
theorem dX11_findWrong_95 : decode cX11_findWrong 95 = .ok (.iadd, 1) := by decide +kernel
theorem dX11_findWrong_96 : decode cX11_findWrong 96 = .ok (.imul, 1) := by decide +kernel
theorem dX11_findWrong_97 : decode cX11_findWrong 97 = .ok (.iload_n 1, 1) := by decide +kernel
theorem dX11_findWrong_98 : decode cX11_findWrong 98 = .ok (.iadd, 1) := by decide +kernel
theorem dX11_findWrong_99 : decode cX11_findWrong 99 = .ok (.iaload, 1) := by decide +kernel
theorem dX11_findWrong_100 : decode cX11_findWrong 100 = .ok (.iadd, 1) := by decide +kernel
theorem dX11_findWrong_101 : decode cX11_findWrong 101 = .ok (.goto 4, 3) := by decide +kernel
theorem dX11_findWrong_104 : decode cX11_findWrong 104 = .ok (.iconst 0, 1) := by decide +kernel
theorem dX11_findWrong_105 : decode cX11_findWrong 105 = .ok (.istore 5, 2) := by decide +kernel
theorem dX11_findWrong_107 : decode cX11_findWrong 107 = .ok (.aload_n 0, 1) := by decide +kernel
theorem dX11_findWrong_108 : decode cX11_findWrong 108 = .ok (.getfield 53, 3) := by decide +kernel
theorem dX11_findWrong_111 : decode cX11_findWrong 111 = .ok (.bipush 25, 2) := by decide +kernel
theorem dX11_findWrong_113 : decode cX11_findWrong 113 = .ok (.iload_n 1, 1) := by decide +kernel
theorem dX11_findWrong_114 : decode cX11_findWrong 114 = .ok (.imul, 1) := by decide +kernel
theorem dX11_findWrong_115 : decode cX11_findWrong 115 = .ok (.iload_n 2, 1) := by decide +kernel
theorem dX11_findWrong_116 : decode cX11_findWrong 116 = .ok (.iadd, 1) := by decide +kernel
theorem dX11_findWrong_117 : decode cX11_findWrong 117 = .ok (.iload 5, 2) := by decide +kernel
theorem dX11_findWrong_119 : decode cX11_findWrong 119 = .ok (.iload 4, 2) := by decide +kernel
theorem dX11_findWrong_121 : decode cX11_findWrong 121 = .ok (.if_icmp .le 8, 3) := by decide +kernel
theorem dX11_findWrong_124 : decode cX11_findWrong 124 = .ok (.iload 5, 2) := by decide +kernel
theorem dX11_findWrong_126 : decode cX11_findWrong 126 = .ok (.goto 5, 3) := by decide +kernel
theorem dX11_findWrong_129 : decode cX11_findWrong 129 = .ok (.iload 4, 2) := by decide +kernel
theorem dX11_findWrong_131 : decode cX11_findWrong 131 = .ok (.iastore, 1) := by decide +kernel
theorem dX11_findWrong_132 : decode cX11_findWrong 132 = .ok (.iinc 2 1, 3) := by decide +kernel
theorem dX11_findWrong_135 : decode cX11_findWrong 135 = .ok (.goto (-124), 3) := by decide +kernel
theorem dX11_findWrong_138 : decode cX11_findWrong 138 = .ok (.iinc 1 (-1), 3) := by decide +kernel
theorem dX11_findWrong_141 : decode cX11_findWrong 141 = .ok (.goto (-136), 3) := by decide +kernel
theorem dX11_findWrong_144 : decode cX11_findWrong 144 = .ok (.iconst 0, 1) := by decide +kernel
theorem dX11_findWrong_145 : decode cX11_findWrong 145 = .ok (.istore_n 1, 1) := by decide +kernel
theorem dX11_findWrong_146 : decode cX11_findWrong 146 = .ok (.bipush 24, 2) := by decide +kernel
theorem dX11_findWrong_148 : decode cX11_findWrong 148 = .ok (.istore_n 2, 1) := by decide +kernel
theorem dX11_findWrong_149 : decode cX11_findWrong 149 = .ok (.iconst 0, 1) := by decide +kernel
theorem dX11_findWrong_150 : decode cX11_findWrong 150 = .ok (.istore_n 3, 1) := by decide +kernel
theorem dX11_findWrong_151 : decode cX11_findWrong 151 = .ok (.iload_n 3, 1) := by decide +kernel
theorem dX11_findWrong_152 : decode cX11_findWrong 152 = .ok (.aload_n 0, 1) := by decide +kernel
theorem dX11_findWrong_153 : decode cX11_findWrong 153 = .ok (.getfield 222, 3) := by decide +kernel
theorem dX11_findWrong_156 : decode cX11_findWrong 156 = .ok (.if_icmp .ge 85, 3) := by decide +kernel
theorem dX11_findWrong_159 : decode cX11_findWrong 159 = .ok (.aload_n 0, 1) := by decide +kernel
theorem dX11_findWrong_160 : decode cX11_findWrong 160 = .ok (.iload_n 2, 1) := by decide +kernel
theorem dX11_findWrong_161 : decode cX11_findWrong 161 = .ok (.iload_n 3, 1) := by decide +kernel
theorem dX11_findWrong_162 : decode cX11_findWrong 162 = .ok (.invokevirtual 270, 3) := by decide +kernel
theorem dX11_findWrong_165 : decode cX11_findWrong 165 = .ok (.ifCond .eq 36, 3) := by decide +kernel
theorem dX11_findWrong_168 : decode cX11_findWrong 168 = .ok (.iconst 1, 1) := by decide +kernel
theorem dX11_findWrong_169 : decode cX11_findWrong 169 = .ok (.aload_n 0, 1) := by decide +kernel
theorem dX11_findWrong_170 : decode cX11_findWrong 170 = .ok (.getfield 53, 3) := by decide +kernel
theorem dX11_findWrong_173 : decode cX11_findWrong 173 = .ok (.bipush 25, 2) := by decide +kernel
theorem dX11_findWrong_175 : decode cX11_findWrong 175 = .ok (.iload_n 3, 1) := by decide +kernel
theorem dX11_findWrong_176 : decode cX11_findWrong 176 = .ok (.iconst 1, 1) := by decide +kernel
theorem dX11_findWrong_177 : decode cX11_findWrong 177 = .ok (.iadd, 1) := by decide +kernel
theorem dX11_findWrong_178 : decode cX11_findWrong 178 = .ok (.imul, 1) := by decide +kernel
theorem dX11_findWrong_179 : decode cX11_findWrong 179 = .ok (.iload_n 3, 1) := by decide +kernel
theorem dX11_findWrong_180 : decode cX11_findWrong 180 = .ok (.iadd, 1) := by decide +kernel
theorem dX11_findWrong_181 : decode cX11_findWrong 181 = .ok (.iaload, 1) := by decide +kernel
theorem dX11_findWrong_182 : decode cX11_findWrong 182 = .ok (.iadd, 1) := by decide +kernel
theorem dX11_findWrong_183 : decode cX11_findWrong 183 = .ok (.aload_n 0, 1) := by decide +kernel
theorem dX11_findWrong_184 : decode cX11_findWrong 184 = .ok (.getfield 53, 3) := by decide +kernel
theorem dX11_findWrong_187 : decode cX11_findWrong 187 = .ok (.bipush 25, 2) := by decide +kernel
theorem dX11_findWrong_189 : decode cX11_findWrong 189 = .ok (.iload_n 3, 1) := by decide +kernel
theorem dX11_findWrong_190 : decode cX11_findWrong 190 = .ok (.imul, 1) := by decide +kernel
theorem dX11_findWrong_191 : decode cX11_findWrong 191 = .ok (.iload_n 2, 1) := by decide +kernel
theorem dX11_findWrong_192 : decode cX11_findWrong 192 = .ok (.iadd, 1) := by decide +kernel
theorem dX11_findWrong_193 : decode cX11_findWrong 193 = .ok (.iaload, 1) := by decide +kernel
theorem dX11_findWrong_194 : decode cX11_findWrong 194 = .ok (.if_icmp .ne 7, 3) := by decide +kernel
theorem dX11_findWrong_197 : decode cX11_findWrong 197 = .ok (.iconst 1, 1) := by decide +kernel
theorem dX11_findWrong_198 : decode cX11_findWrong 198 = .ok (.goto 4, 3) := by decide +kernel
theorem dX11_findWrong_201 : decode cX11_findWrong 201 = .ok (.iconst 0, 1) := by decide +kernel
theorem dX11_findWrong_202 : decode cX11_findWrong 202 = .ok (.istore 4, 2) := by decide +kernel
theorem dX11_findWrong_204 : decode cX11_findWrong 204 = .ok (.iload_n 1, 1) := by decide +kernel
theorem dX11_findWrong_205 : decode cX11_findWrong 205 = .ok (.iload 4, 2) := by decide +kernel
theorem dX11_findWrong_207 : decode cX11_findWrong 207 = .ok (.ifCond .eq 7, 3) := by decide +kernel
theorem dX11_findWrong_210 : decode cX11_findWrong 210 = .ok (.iconst 0, 1) := by decide +kernel
theorem dX11_findWrong_211 : decode cX11_findWrong 211 = .ok (.goto 11, 3) := by decide +kernel
theorem dX11_findWrong_214 : decode cX11_findWrong 214 = .ok (.iconst 1, 1) := by decide +kernel
theorem dX11_findWrong_215 : decode cX11_findWrong 215 = .ok (.aload_n 0, 1) := by decide +kernel
theorem dX11_findWrong_216 : decode cX11_findWrong 216 = .ok (.getfield 28, 3) := by decide +kernel
theorem dX11_findWrong_219 : decode cX11_findWrong 219 = .ok (.iload_n 3, 1) := by decide +kernel
theorem dX11_findWrong_220 : decode cX11_findWrong 220 = .ok (.iaload, 1) := by decide +kernel
theorem dX11_findWrong_221 : decode cX11_findWrong 221 = .ok (.ishl, 1) := by decide +kernel
theorem dX11_findWrong_222 : decode cX11_findWrong 222 = .ok (.ior, 1) := by decide +kernel
theorem dX11_findWrong_223 : decode cX11_findWrong 223 = .ok (.istore_n 1, 1) := by decide +kernel
theorem dX11_findWrong_224 : decode cX11_findWrong 224 = .ok (.iload 4, 2) := by decide +kernel
theorem dX11_findWrong_226 : decode cX11_findWrong 226 = .ok (.ifCond .eq 7, 3) := by decide +kernel
theorem dX11_findWrong_229 : decode cX11_findWrong 229 = .ok (.iload_n 3, 1) := by decide +kernel
theorem dX11_findWrong_230 : decode cX11_findWrong 230 = .ok (.goto 4, 3) := by decide +kernel
theorem dX11_findWrong_233 : decode cX11_findWrong 233 = .ok (.iload_n 2, 1) := by decide +kernel
theorem dX11_findWrong_234 : decode cX11_findWrong 234 = .ok (.istore_n 2, 1) := by decide +kernel
theorem dX11_findWrong_235 : decode cX11_findWrong 235 = .ok (.iinc 3 1, 3) := by decide +kernel
theorem dX11_findWrong_238 : decode cX11_findWrong 238 = .ok (.goto (-87), 3) := by decide +kernel
theorem dX11_findWrong_241 : decode cX11_findWrong 241 = .ok (.iload_n 1, 1) := by decide +kernel
theorem dX11_findWrong_242 : decode cX11_findWrong 242 = .ok (.ireturn, 1) := by decide +kernel
set_option maxHeartbeats 4000000 in
set_option maxRecDepth 100000 in
theorem kX11_findWrong (l : Launch) (z : Nat) (D : va_G) (cA : Nat → ClassId) (a0 : Nat) (M : Mem) (K : Int32 → Mem → Prop) (h : PX11_findWrong a0 M K) : Met l yX11_findWrong (.code yX11_findWrong cX11_findWrong 6 (some .int) :: gtbl) ({ frames := 4, cells := 0, slots := 0, locals := 95 } : Room) (va_Pc [.ref a0] (xB z D cA M)) (va_Qi K (xWd z D cA) (xA z)) 0 0 (xA z) := by
  refine x_met (by decide +kernel) (Nat.le_of_ble_eq_true rfl) (L0 := [(0, .ref a0)]) rfl ?_
  intro p e s m args below meth c E hr hlk hnm
  have E : xE RX11 cX11_findWrong 6 D cA p s m args c := E
  replace h := h.2
  refine x_aload_n E dX11_findWrong_0 rfl 0 rfl ?_
  obtain ⟨hT, v1, hv, h⟩ := h
  refine x_get E flX11_222 dX11_findWrong_1 hT hv ?_
  clear hT hv
  refine x_istore_n (L' := [(1, .int v1), (0, .ref a0)]) E dX11_findWrong_4 rfl (by decide) rfl ?_
  refine x_sub (L' := [(0, .ref a0), (1, .int v1)]) [1, 0] rfl ?_
  refine lp_sound (T := fun sv => xG p l e ({ frames := 4, cells := 0, slots := 0, locals := 95 } : Room) s m args below meth c (MQ below (va_Qi K (xWd z D cA) (xA z)) args s 0 0 (xA z)) 6 z D cA sv.1 (0) (0) 5 [(0, .ref a0), (1, .int sv.2)] []) ?_ (M, v1) h
  clear h
  intro kc5 hk5 sv h
  obtain ⟨M, x1⟩ := sv
  replace h : CX11_findWrong_5 K a0 kc5 M x1 := h
  try dsimp only
  refine x_iload_n E dX11_findWrong_5 rfl 1 rfl ?_
  refine x_if_lt (tgt := 144) E dX11_findWrong_6 (by decide) (fun c2 => ?_) (fun c2 => ?_)
  · replace h := xbr_t h c2
    clear c2
    refine x_iconst (v := (J 0)) E dX11_findWrong_144 (by decide) ?_
    refine x_istore_n (L' := [(1, .int (J 0)), (0, .ref a0)]) E dX11_findWrong_145 rfl (by decide) rfl ?_
    refine x_bipush (v := (J 24)) E dX11_findWrong_146 (by decide) ?_
    refine x_istore_n (L' := [(2, .int (J 24)), (1, .int (J 0)), (0, .ref a0)]) E dX11_findWrong_148 rfl (by decide) rfl ?_
    refine x_iconst (v := (J 0)) E dX11_findWrong_149 (by decide) ?_
    refine x_istore_n (L' := [(3, .int (J 0)), (2, .int (J 24)), (1, .int (J 0)), (0, .ref a0)]) E dX11_findWrong_150 rfl (by decide) rfl ?_
    refine x_sub (L' := [(0, .ref a0), (1, .int (J 0)), (2, .int (J 24)), (3, .int (J 0))]) [3, 2, 1, 0] rfl ?_
    refine lp_sound (T := fun sv => xG p l e ({ frames := 4, cells := 0, slots := 0, locals := 95 } : Room) s m args below meth c (MQ below (va_Qi K (xWd z D cA) (xA z)) args s 0 0 (xA z)) 6 z D cA M (0) (0) 151 [(0, .ref a0), (1, .int sv.1), (2, .int sv.2.1), (3, .int sv.2.2)] []) ?_ ((J 0), (J 24), (J 0)) h
    clear h
    intro kc151 hk151 sv h
    obtain ⟨x1, x2, x3⟩ := sv
    replace h : CX11_findWrong_151 K M a0 kc151 x1 x2 x3 := h
    try dsimp only
    have hJ222 : ∀ (j2 : Int32) (j3 : Int32) (j4 : Int32) (s0 : Int32) (s1 : Int32), JX11_findWrong_222 K kc151 M a0 j2 j3 j4 s0 s1 → xG p l e ({ frames := 4, cells := 0, slots := 0, locals := 95 } : Room) s m args below meth c (MQ below (va_Qi K (xWd z D cA) (xA z)) args s 0 0 (xA z)) 6 z D cA M (0) (0) 222 [(0, .ref a0), (2, .int j2), (3, .int j3), (4, .int j4)] [.int s0, .int s1] := by
      intro j2 j3 j4 s0 s1 h
      refine x_ior E dX11_findWrong_222 ?_
      obtain ⟨y11, ey11, h⟩ := h
      refine x_top (v := .int y11) (congrArg _ ey11) ?_
      clear ey11
      refine x_istore_n (L' := [(1, .int y11), (0, .ref a0), (2, .int j2), (3, .int j3), (4, .int j4)]) E dX11_findWrong_223 rfl (by decide) rfl ?_
      refine x_iload E dX11_findWrong_224 4 rfl ?_
      refine x_if_eq (tgt := 233) E dX11_findWrong_226 (by decide) (fun c12 => ?_) (fun c12 => ?_)
      · replace h := xbr_t h c12
        clear c12
        refine x_iload_n E dX11_findWrong_233 rfl 2 rfl ?_
        refine x_istore_n (L' := [(2, .int j2), (1, .int y11), (0, .ref a0), (3, .int j3), (4, .int j4)]) E dX11_findWrong_234 rfl (by decide) rfl ?_
        refine x_iinc (v := (j3 + (J 1))) (L' := [(3, .int (j3 + (J 1))), (2, .int j2), (1, .int y11), (0, .ref a0), (4, .int j4)]) E dX11_findWrong_235 3 rfl rfl (by decide) rfl ?_
        refine x_goto (tgt := 151) E dX11_findWrong_238 (by decide) ?_
        refine x_sub (L' := [(0, .ref a0), (1, .int y11), (2, .int j2), (3, .int (j3 + (J 1)))]) [3, 2, 1, 0] rfl ?_
        exact hk151 (y11, j2, (j3 + (J 1))) h
      · replace h := xbr_f h c12
        clear c12
        refine x_iload_n E dX11_findWrong_229 rfl 3 rfl ?_
        refine x_goto (tgt := 234) E dX11_findWrong_230 (by decide) ?_
        refine x_istore_n (L' := [(2, .int j3), (1, .int y11), (0, .ref a0), (3, .int j3), (4, .int j4)]) E dX11_findWrong_234 rfl (by decide) rfl ?_
        refine x_iinc (v := (j3 + (J 1))) (L' := [(3, .int (j3 + (J 1))), (2, .int j3), (1, .int y11), (0, .ref a0), (4, .int j4)]) E dX11_findWrong_235 3 rfl rfl (by decide) rfl ?_
        refine x_goto (tgt := 151) E dX11_findWrong_238 (by decide) ?_
        refine x_sub (L' := [(0, .ref a0), (1, .int y11), (2, .int j3), (3, .int (j3 + (J 1)))]) [3, 2, 1, 0] rfl ?_
        exact hk151 (y11, j3, (j3 + (J 1))) h
    have hJ202 : ∀ (j1 : Int32) (j2 : Int32) (j3 : Int32) (s0 : Int32), JX11_findWrong_202 K kc151 M a0 j1 j2 j3 s0 → xG p l e ({ frames := 4, cells := 0, slots := 0, locals := 95 } : Room) s m args below meth c (MQ below (va_Qi K (xWd z D cA) (xA z)) args s 0 0 (xA z)) 6 z D cA M (0) (0) 202 [(0, .ref a0), (1, .int j1), (2, .int j2), (3, .int j3)] [.int s0] := by
      intro j1 j2 j3 s0 h
      refine x_istore (L' := [(4, .int s0), (0, .ref a0), (1, .int j1), (2, .int j2), (3, .int j3)]) E dX11_findWrong_202 (by decide) rfl ?_
      refine x_iload_n E dX11_findWrong_204 rfl 2 rfl ?_
      refine x_iload E dX11_findWrong_205 0 rfl ?_
      refine x_if_eq (tgt := 214) E dX11_findWrong_207 (by decide) (fun c8 => ?_) (fun c8 => ?_)
      · replace h := xbr_t h c8
        clear c8
        refine x_iconst (v := (J 1)) E dX11_findWrong_214 (by decide) ?_
        refine x_aload_n E dX11_findWrong_215 rfl 1 rfl ?_
        obtain ⟨hT, q9, hv, h⟩ := h
        refine x_get E flX11_28 dX11_findWrong_216 hT hv ?_
        clear hT hv
        refine x_iload_n E dX11_findWrong_219 rfl 4 rfl ?_
        obtain ⟨hT, hi, v10, hv, h⟩ := h
        refine x_iald E dX11_findWrong_220 hT hi hv ?_
        clear hT hi hv
        refine x_ishl E dX11_findWrong_221 ?_
        refine x_sub (L' := [(0, .ref a0), (2, .int j2), (3, .int j3), (4, .int s0)]) [1, 3, 4, 0] rfl ?_
        exact hJ222 j2 j3 s0 ((J 1) <<< (v10 &&& 31)) j1 h
      · replace h := xbr_f h c8
        clear c8
        refine x_iconst (v := (J 0)) E dX11_findWrong_210 (by decide) ?_
        refine x_goto (tgt := 222) E dX11_findWrong_211 (by decide) ?_
        refine x_sub (L' := [(0, .ref a0), (2, .int j2), (3, .int j3), (4, .int s0)]) [1, 3, 4, 0] rfl ?_
        exact hJ222 j2 j3 s0 (J 0) j1 h
    have hJ201 : ∀ (j1 : Int32) (j2 : Int32) (j3 : Int32), JX11_findWrong_201 K kc151 M a0 j1 j2 j3 → xG p l e ({ frames := 4, cells := 0, slots := 0, locals := 95 } : Room) s m args below meth c (MQ below (va_Qi K (xWd z D cA) (xA z)) args s 0 0 (xA z)) 6 z D cA M (0) (0) 201 [(0, .ref a0), (1, .int j1), (2, .int j2), (3, .int j3)] [] := by
      intro j1 j2 j3 h
      refine x_iconst (v := (J 0)) E dX11_findWrong_201 (by decide) ?_
      exact hJ202 j1 j2 j3 (J 0) h
    refine x_iload_n E dX11_findWrong_151 rfl 3 rfl ?_
    refine x_aload_n E dX11_findWrong_152 rfl 0 rfl ?_
    obtain ⟨hT, v3, hv, h⟩ := h
    refine x_get E flX11_222 dX11_findWrong_153 hT hv ?_
    clear hT hv
    refine x_icmp_ge (tgt := 241) E dX11_findWrong_156 (by decide) (fun c4 => ?_) (fun c4 => ?_)
    · replace h := xbr_t h c4
      clear c4
      refine x_iload_n E dX11_findWrong_241 rfl 1 rfl ?_
      exact x_iret E hr hlk dX11_findWrong_242 h
    · replace h := xbr_f h c4
      clear c4
      refine x_aload_n E dX11_findWrong_159 rfl 0 rfl ?_
      refine x_iload_n E dX11_findWrong_160 rfl 2 rfl ?_
      refine x_iload_n E dX11_findWrong_161 rfl 3 rfl ?_
      refine x_callVi (T := TX11) (N := 32) (t := 12) (As := [.int x2, .int x3]) E mlX11_270 inX11_mayStand seX11_mayStand rfl ⟨by decide, by decide⟩ (tX11_mayStand h) (kX11_mayStand l z D cA a0 x2 x3 M _ h) rfl ⟨rfl, rfl⟩ ⟨Nat.le_of_ble_eq_true rfl, Nat.le_of_ble_eq_true rfl⟩ ⟨(Nat.le_of_ble_eq_true rfl), (Nat.le_of_ble_eq_true rfl)⟩ (Nat.le_of_ble_eq_true rfl) rfl dX11_findWrong_162 (x_pure (fun r5 h => ?_))
      refine x_if_eq (tgt := 201) E dX11_findWrong_165 (by decide) (fun c7 => ?_) (fun c7 => ?_)
      · replace h := xbr_t h c7
        clear c7
        exact hJ201 x1 x2 x3 h
      · replace h := xbr_f h c7
        clear c7
        refine x_iconst (v := (J 1)) E dX11_findWrong_168 (by decide) ?_
        refine x_aload_n E dX11_findWrong_169 rfl 0 rfl ?_
        obtain ⟨hT, q13, hv, h⟩ := h
        refine x_get E flX11_53 dX11_findWrong_170 hT hv ?_
        clear hT hv
        refine x_bipush (v := (J 25)) E dX11_findWrong_173 (by decide) ?_
        refine x_iload_n E dX11_findWrong_175 rfl 3 rfl ?_
        refine x_iconst (v := (J 1)) E dX11_findWrong_176 (by decide) ?_
        refine x_iadd E dX11_findWrong_177 ?_
        refine x_imul E dX11_findWrong_178 ?_
        refine x_iload_n E dX11_findWrong_179 rfl 3 rfl ?_
        refine x_iadd E dX11_findWrong_180 ?_
        obtain ⟨hT, hi, v14, hv, h⟩ := h
        refine x_iald E dX11_findWrong_181 hT hi hv ?_
        clear hT hi hv
        refine x_iadd E dX11_findWrong_182 ?_
        refine x_aload_n E dX11_findWrong_183 rfl 0 rfl ?_
        obtain ⟨hT, q15, hv, h⟩ := h
        refine x_get E flX11_53 dX11_findWrong_184 hT hv ?_
        clear hT hv
        refine x_bipush (v := (J 25)) E dX11_findWrong_187 (by decide) ?_
        refine x_iload_n E dX11_findWrong_189 rfl 3 rfl ?_
        refine x_imul E dX11_findWrong_190 ?_
        refine x_iload_n E dX11_findWrong_191 rfl 2 rfl ?_
        refine x_iadd E dX11_findWrong_192 ?_
        obtain ⟨hT, hi, v16, hv, h⟩ := h
        refine x_iald E dX11_findWrong_193 hT hi hv ?_
        clear hT hi hv
        refine x_icmp_ne (tgt := 201) E dX11_findWrong_194 (by decide) (fun c17 => ?_) (fun c17 => ?_)
        · replace h := xbr_f h c17
          clear c17
          exact hJ201 x1 x2 x3 h
        · replace h := xbr_t h c17
          clear c17
          refine x_iconst (v := (J 1)) E dX11_findWrong_197 (by decide) ?_
          refine x_goto (tgt := 202) E dX11_findWrong_198 (by decide) ?_
          exact hJ202 x1 x2 x3 (J 1) h
  · replace h := xbr_f h c2
    clear c2
    refine x_iconst (v := (J 0)) E dX11_findWrong_9 (by decide) ?_
    refine x_istore_n (L' := [(2, .int (J 0)), (0, .ref a0), (1, .int x1)]) E dX11_findWrong_10 rfl (by decide) rfl ?_
    refine x_sub (L' := [(0, .ref a0), (1, .int x1), (2, .int (J 0))]) [1, 2, 0] rfl ?_
    refine lp_sound (T := fun sv => xG p l e ({ frames := 4, cells := 0, slots := 0, locals := 95 } : Room) s m args below meth c (MQ below (va_Qi K (xWd z D cA) (xA z)) args s 0 0 (xA z)) 6 z D cA sv.1 (0) (0) 11 [(0, .ref a0), (1, .int x1), (2, .int sv.2)] []) ?_ (M, (J 0)) h
    clear h
    intro kc11 hk11 sv h
    obtain ⟨M, x2⟩ := sv
    replace h : CX11_findWrong_11 K kc5 a0 x1 kc11 M x2 := h
    try dsimp only
    have hJ105 : ∀ (M : Mem) (j2 : Int32) (j4 : Int32) (s0 : Int32), JX11_findWrong_105 K kc5 kc11 M a0 x1 j2 j4 s0 → xG p l e ({ frames := 4, cells := 0, slots := 0, locals := 95 } : Room) s m args below meth c (MQ below (va_Qi K (xWd z D cA) (xA z)) args s 0 0 (xA z)) 6 z D cA M (0) (0) 105 [(0, .ref a0), (1, .int x1), (2, .int j2), (4, .int j4)] [.int s0] := by
      intro M j2 j4 s0 h
      refine x_istore (L' := [(5, .int s0), (0, .ref a0), (1, .int x1), (2, .int j2), (4, .int j4)]) E dX11_findWrong_105 (by decide) rfl ?_
      refine x_aload_n E dX11_findWrong_107 rfl 1 rfl ?_
      obtain ⟨hT, q24, hv, h⟩ := h
      refine x_get E flX11_53 dX11_findWrong_108 hT hv ?_
      clear hT hv
      refine x_bipush (v := (J 25)) E dX11_findWrong_111 (by decide) ?_
      refine x_iload_n E dX11_findWrong_113 rfl 2 rfl ?_
      refine x_imul E dX11_findWrong_114 ?_
      refine x_iload_n E dX11_findWrong_115 rfl 3 rfl ?_
      refine x_iadd E dX11_findWrong_116 ?_
      refine x_iload E dX11_findWrong_117 0 rfl ?_
      refine x_iload E dX11_findWrong_119 4 rfl ?_
      refine x_icmp_le (tgt := 129) E dX11_findWrong_121 (by decide) (fun c25 => ?_) (fun c25 => ?_)
      · replace h := xbr_t h c25
        clear c25
        refine x_iload E dX11_findWrong_129 4 rfl ?_
        obtain ⟨hT, hi, h⟩ := h
        refine x_iast E dX11_findWrong_131 hT hi (fun M26 eM26 => ?_)
        replace h := h M26 eM26
        clear hT hi eM26
        refine x_iinc (v := (j2 + (J 1))) (L' := [(2, .int (j2 + (J 1))), (5, .int s0), (0, .ref a0), (1, .int x1), (4, .int j4)]) E dX11_findWrong_132 3 rfl rfl (by decide) rfl ?_
        refine x_goto (tgt := 11) E dX11_findWrong_135 (by decide) ?_
        refine x_sub (L' := [(0, .ref a0), (1, .int x1), (2, .int (j2 + (J 1)))]) [2, 3, 0] rfl ?_
        exact hk11 (M26, (j2 + (J 1))) h
      · replace h := xbr_f h c25
        clear c25
        refine x_iload E dX11_findWrong_124 0 rfl ?_
        refine x_goto (tgt := 131) E dX11_findWrong_126 (by decide) ?_
        obtain ⟨hT, hi, h⟩ := h
        refine x_iast E dX11_findWrong_131 hT hi (fun M27 eM27 => ?_)
        replace h := h M27 eM27
        clear hT hi eM27
        refine x_iinc (v := (j2 + (J 1))) (L' := [(2, .int (j2 + (J 1))), (5, .int s0), (0, .ref a0), (1, .int x1), (4, .int j4)]) E dX11_findWrong_132 3 rfl rfl (by decide) rfl ?_
        refine x_goto (tgt := 11) E dX11_findWrong_135 (by decide) ?_
        refine x_sub (L' := [(0, .ref a0), (1, .int x1), (2, .int (j2 + (J 1)))]) [2, 3, 0] rfl ?_
        exact hk11 (M27, (j2 + (J 1))) h
    have hJ104 : ∀ (M : Mem) (j2 : Int32) (j4 : Int32), JX11_findWrong_104 K kc5 kc11 M a0 x1 j2 j4 → xG p l e ({ frames := 4, cells := 0, slots := 0, locals := 95 } : Room) s m args below meth c (MQ below (va_Qi K (xWd z D cA) (xA z)) args s 0 0 (xA z)) 6 z D cA M (0) (0) 104 [(0, .ref a0), (1, .int x1), (2, .int j2), (4, .int j4)] [] := by
      intro M j2 j4 h
      refine x_iconst (v := (J 0)) E dX11_findWrong_104 (by decide) ?_
      exact hJ105 M j2 j4 (J 0) h
    have hJ63 : ∀ (M : Mem) (j2 : Int32) (j3 : Int32) (s0 : Int32), JX11_findWrong_63 K kc5 kc11 M a0 x1 j2 j3 s0 → xG p l e ({ frames := 4, cells := 0, slots := 0, locals := 95 } : Room) s m args below meth c (MQ below (va_Qi K (xWd z D cA) (xA z)) args s 0 0 (xA z)) 6 z D cA M (0) (0) 63 [(0, .ref a0), (1, .int x1), (2, .int j2), (3, .int j3)] [.int s0] := by
      intro M j2 j3 s0 h
      refine x_istore (L' := [(4, .int s0), (0, .ref a0), (1, .int x1), (2, .int j2), (3, .int j3)]) E dX11_findWrong_63 (by decide) rfl ?_
      refine x_iload_n E dX11_findWrong_65 rfl 2 rfl ?_
      refine x_aload_n E dX11_findWrong_66 rfl 1 rfl ?_
      obtain ⟨hT, v22, hv, h⟩ := h
      refine x_get E flX11_222 dX11_findWrong_67 hT hv ?_
      clear hT hv
      refine x_icmp_ge (tgt := 104) E dX11_findWrong_70 (by decide) (fun c23 => ?_) (fun c23 => ?_)
      · replace h := xbr_t h c23
        clear c23
        refine x_sub (L' := [(0, .ref a0), (1, .int x1), (2, .int j2), (4, .int s0)]) [1, 2, 3, 0] rfl ?_
        exact hJ104 M j2 s0 h
      · replace h := xbr_f h c23
        clear c23
        refine x_iload_n E dX11_findWrong_73 rfl 4 rfl ?_
        refine x_if_eq (tgt := 104) E dX11_findWrong_74 (by decide) (fun c28 => ?_) (fun c28 => ?_)
        · replace h := xbr_t h c28
          clear c28
          refine x_sub (L' := [(0, .ref a0), (1, .int x1), (2, .int j2), (4, .int s0)]) [1, 2, 3, 0] rfl ?_
          exact hJ104 M j2 s0 h
        · replace h := xbr_f h c28
          clear c28
          refine x_aload_n E dX11_findWrong_77 rfl 1 rfl ?_
          refine x_iload_n E dX11_findWrong_78 rfl 3 rfl ?_
          refine x_iload_n E dX11_findWrong_79 rfl 2 rfl ?_
          refine x_callVi (T := TX11) (N := 32) (t := 12) (As := [.int j2, .int x1]) E mlX11_270 inX11_mayStand seX11_mayStand rfl ⟨by decide, by decide⟩ (tX11_mayStand h) (kX11_mayStand l z D cA a0 j2 x1 M _ h) rfl ⟨rfl, rfl⟩ ⟨Nat.le_of_ble_eq_true rfl, Nat.le_of_ble_eq_true rfl⟩ ⟨(Nat.le_of_ble_eq_true rfl), (Nat.le_of_ble_eq_true rfl)⟩ (Nat.le_of_ble_eq_true rfl) rfl dX11_findWrong_80 (x_pure (fun r29 h => ?_))
          refine x_if_eq (tgt := 104) E dX11_findWrong_83 (by decide) (fun c31 => ?_) (fun c31 => ?_)
          · replace h := xbr_t h c31
            clear c31
            refine x_sub (L' := [(0, .ref a0), (1, .int x1), (2, .int j2), (4, .int s0)]) [1, 2, 3, 0] rfl ?_
            exact hJ104 M j2 s0 h
          · replace h := xbr_f h c31
            clear c31
            refine x_iconst (v := (J 1)) E dX11_findWrong_86 (by decide) ?_
            refine x_aload_n E dX11_findWrong_87 rfl 1 rfl ?_
            obtain ⟨hT, q32, hv, h⟩ := h
            refine x_get E flX11_53 dX11_findWrong_88 hT hv ?_
            clear hT hv
            refine x_bipush (v := (J 25)) E dX11_findWrong_91 (by decide) ?_
            refine x_iload_n E dX11_findWrong_93 rfl 2 rfl ?_
            refine x_iconst (v := (J 1)) E dX11_findWrong_94 (by decide) ?_
            refine x_iadd E dX11_findWrong_95 ?_
            refine x_imul E dX11_findWrong_96 ?_
            refine x_iload_n E dX11_findWrong_97 rfl 2 rfl ?_
            refine x_iadd E dX11_findWrong_98 ?_
            obtain ⟨hT, hi, v33, hv, h⟩ := h
            refine x_iald E dX11_findWrong_99 hT hi hv ?_
            clear hT hi hv
            refine x_iadd E dX11_findWrong_100 ?_
            refine x_goto (tgt := 105) E dX11_findWrong_101 (by decide) ?_
            refine x_sub (L' := [(0, .ref a0), (1, .int x1), (2, .int j2), (4, .int s0)]) [1, 2, 3, 0] rfl ?_
            exact hJ105 M j2 s0 ((J 1) + v33) h
    have hJ46 : ∀ (M : Mem) (j2 : Int32) (j3 : Int32), JX11_findWrong_46 K kc5 kc11 M a0 x1 j2 j3 → xG p l e ({ frames := 4, cells := 0, slots := 0, locals := 95 } : Room) s m args below meth c (MQ below (va_Qi K (xWd z D cA) (xA z)) args s 0 0 (xA z)) 6 z D cA M (0) (0) 46 [(0, .ref a0), (1, .int x1), (2, .int j2), (3, .int j3)] [] := by
      intro M j2 j3 h
      refine x_iconst (v := (J 0)) E dX11_findWrong_46 (by decide) ?_
      refine x_goto (tgt := 63) E dX11_findWrong_47 (by decide) ?_
      exact hJ63 M j2 j3 (J 0) h
    have hJ33 : ∀ (M : Mem) (j2 : Int32) (s0 : Int32), JX11_findWrong_33 K kc5 kc11 M a0 x1 j2 s0 → xG p l e ({ frames := 4, cells := 0, slots := 0, locals := 95 } : Room) s m args below meth c (MQ below (va_Qi K (xWd z D cA) (xA z)) args s 0 0 (xA z)) 6 z D cA M (0) (0) 33 [(0, .ref a0), (1, .int x1), (2, .int j2)] [.int s0] := by
      intro M j2 s0 h
      refine x_istore_n (L' := [(3, .int s0), (0, .ref a0), (1, .int x1), (2, .int j2)]) E dX11_findWrong_33 rfl (by decide) rfl ?_
      refine x_iload_n E dX11_findWrong_34 rfl 2 rfl ?_
      refine x_aload_n E dX11_findWrong_35 rfl 1 rfl ?_
      obtain ⟨hT, v20, hv, h⟩ := h
      refine x_get E flX11_222 dX11_findWrong_36 hT hv ?_
      clear hT hv
      refine x_icmp_eq (tgt := 46) E dX11_findWrong_39 (by decide) (fun c21 => ?_) (fun c21 => ?_)
      · replace h := xbr_t h c21
        clear c21
        refine x_sub (L' := [(0, .ref a0), (1, .int x1), (2, .int j2), (3, .int s0)]) [1, 2, 3, 0] rfl ?_
        exact hJ46 M j2 s0 h
      · replace h := xbr_f h c21
        clear c21
        refine x_iload_n E dX11_findWrong_42 rfl 0 rfl ?_
        refine x_if_ne (tgt := 50) E dX11_findWrong_43 (by decide) (fun c34 => ?_) (fun c34 => ?_)
        · replace h := xbr_f h c34
          clear c34
          refine x_aload_n E dX11_findWrong_50 rfl 1 rfl ?_
          obtain ⟨hT, q35, hv, h⟩ := h
          refine x_get E flX11_53 dX11_findWrong_51 hT hv ?_
          clear hT hv
          refine x_bipush (v := (J 25)) E dX11_findWrong_54 (by decide) ?_
          refine x_iload_n E dX11_findWrong_56 rfl 2 rfl ?_
          refine x_iconst (v := (J 1)) E dX11_findWrong_57 (by decide) ?_
          refine x_iadd E dX11_findWrong_58 ?_
          refine x_imul E dX11_findWrong_59 ?_
          refine x_iload_n E dX11_findWrong_60 rfl 3 rfl ?_
          refine x_iadd E dX11_findWrong_61 ?_
          obtain ⟨hT, hi, v36, hv, h⟩ := h
          refine x_iald E dX11_findWrong_62 hT hi hv ?_
          clear hT hi hv
          refine x_sub (L' := [(0, .ref a0), (1, .int x1), (2, .int j2), (3, .int s0)]) [1, 2, 3, 0] rfl ?_
          exact hJ63 M j2 s0 v36 h
        · replace h := xbr_t h c34
          clear c34
          refine x_sub (L' := [(0, .ref a0), (1, .int x1), (2, .int j2), (3, .int s0)]) [1, 2, 3, 0] rfl ?_
          exact hJ46 M j2 s0 h
    have hJ28 : ∀ (M : Mem) (j2 : Int32), JX11_findWrong_28 K kc5 kc11 M a0 x1 j2 → xG p l e ({ frames := 4, cells := 0, slots := 0, locals := 95 } : Room) s m args below meth c (MQ below (va_Qi K (xWd z D cA) (xA z)) args s 0 0 (xA z)) 6 z D cA M (0) (0) 28 [(0, .ref a0), (1, .int x1), (2, .int j2)] [] := by
      intro M j2 h
      refine x_iconst (v := (J 1)) E dX11_findWrong_28 (by decide) ?_
      refine x_goto (tgt := 33) E dX11_findWrong_29 (by decide) ?_
      exact hJ33 M j2 (J 1) h
    refine x_iload_n E dX11_findWrong_11 rfl 2 rfl ?_
    refine x_bipush (v := (J 24)) E dX11_findWrong_12 (by decide) ?_
    refine x_icmp_gt (tgt := 138) E dX11_findWrong_14 (by decide) (fun c18 => ?_) (fun c18 => ?_)
    · replace h := xbr_t h c18
      clear c18
      refine x_iinc (v := (x1 + (J (-1)))) (L' := [(1, .int (x1 + (J (-1)))), (0, .ref a0), (2, .int x2)]) E dX11_findWrong_138 1 rfl rfl (by decide) rfl ?_
      refine x_goto (tgt := 5) E dX11_findWrong_141 (by decide) ?_
      refine x_sub (L' := [(0, .ref a0), (1, .int (x1 + (J (-1))))]) [1, 0] rfl ?_
      exact hk5 (M, (x1 + (J (-1)))) h
    · replace h := xbr_f h c18
      clear c18
      refine x_iload_n E dX11_findWrong_17 rfl 2 rfl ?_
      refine x_bipush (v := (J 24)) E dX11_findWrong_18 (by decide) ?_
      refine x_icmp_eq (tgt := 28) E dX11_findWrong_20 (by decide) (fun c19 => ?_) (fun c19 => ?_)
      · replace h := xbr_t h c19
        clear c19
        exact hJ28 M x2 h
      · replace h := xbr_f h c19
        clear c19
        refine x_iload_n E dX11_findWrong_23 rfl 2 rfl ?_
        refine x_iload_n E dX11_findWrong_24 rfl 1 rfl ?_
        refine x_icmp_ge (tgt := 32) E dX11_findWrong_25 (by decide) (fun c37 => ?_) (fun c37 => ?_)
        · replace h := xbr_t h c37
          clear c37
          refine x_iconst (v := (J 0)) E dX11_findWrong_32 (by decide) ?_
          exact hJ33 M x2 (J 0) h
        · replace h := xbr_f h c37
          clear c37
          exact hJ28 M x2 h
