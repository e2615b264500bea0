/-! contracts (by program) -/
theorem dX10_isIn_0 : decode cX10_isIn 0 = .ok (.iload_n 1, 1) := by decide +kernel
theorem dX10_isIn_1 : decode cX10_isIn 1 = .ok (.ifCond .lt 21, 3) := by decide +kernel
theorem dX10_isIn_4 : decode cX10_isIn 4 = .ok (.iload_n 1, 1) := by decide +kernel
theorem dX10_isIn_5 : decode cX10_isIn 5 = .ok (.bipush 24, 2) := by decide +kernel
theorem dX10_isIn_7 : decode cX10_isIn 7 = .ok (.if_icmp .ge 15, 3) := by decide +kernel
theorem dX10_isIn_10 : decode cX10_isIn 10 = .ok (.iload_n 0, 1) := by decide +kernel
theorem dX10_isIn_11 : decode cX10_isIn 11 = .ok (.iconst 1, 1) := by decide +kernel
theorem dX10_isIn_12 : decode cX10_isIn 12 = .ok (.iload_n 1, 1) := by decide +kernel
theorem dX10_isIn_13 : decode cX10_isIn 13 = .ok (.ishl, 1) := by decide +kernel
theorem dX10_isIn_14 : decode cX10_isIn 14 = .ok (.iand, 1) := by decide +kernel
theorem dX10_isIn_15 : decode cX10_isIn 15 = .ok (.ifCond .eq 7, 3) := by decide +kernel
theorem dX10_isIn_18 : decode cX10_isIn 18 = .ok (.iconst 1, 1) := by decide +kernel
theorem dX10_isIn_19 : decode cX10_isIn 19 = .ok (.goto 4, 3) := by decide +kernel
theorem dX10_isIn_22 : decode cX10_isIn 22 = .ok (.iconst 0, 1) := by decide +kernel
theorem dX10_isIn_23 : decode cX10_isIn 23 = .ok (.ireturn, 1) := by decide +kernel
set_option maxHeartbeats 4000000 in
set_option maxRecDepth 100000 in
theorem kX10_isIn (l : Launch) (z : Nat) (D : va_G) (cA : Nat → ClassId) (x0 : Int32) (x1 : Int32) (M : Mem) (K : Int32 → Prop) (h : PX10_isIn x0 x1 M K) : Met l yX10_isIn (.code yX10_isIn cX10_isIn 2 (some .boolean) :: gtbl) ({ frames := 0, cells := 0, slots := 0, locals := 0 } : Room) (va_Pc [.int x0, .int x1] (xB z D cA M)) (va_Qi (fun r M1 => M1 = M ∧ K r) (xWd z D cA) (xA z)) 0 0 (xA z) := by
  refine x_met (by decide +kernel) (Nat.le_of_ble_eq_true rfl) (L0 := [(0, .int x0), (1, .int x1)]) rfl ?_
  intro p e s m args below meth c E hr hlk hnm
  have E : xE RX10 cX10_isIn 2 D cA p s m args c := E
  refine x_iload_n E dX10_isIn_0 rfl 1 rfl ?_
  refine x_if_lt (tgt := 22) E dX10_isIn_1 (by decide) (fun c1 => ?_) (fun c1 => ?_)
  · replace h := xbr_t h c1
    clear c1
    refine x_iconst (v := (J 0)) E dX10_isIn_22 (by decide) ?_
    exact x_zret E hr hlk dX10_isIn_23 h.1 ⟨rfl, h.2⟩
  · replace h := xbr_f h c1
    clear c1
    refine x_iload_n E dX10_isIn_4 rfl 1 rfl ?_
    refine x_bipush (v := (J 24)) E dX10_isIn_5 (by decide) ?_
    refine x_icmp_ge (tgt := 22) E dX10_isIn_7 (by decide) (fun c2 => ?_) (fun c2 => ?_)
    · replace h := xbr_t h c2
      clear c2
      refine x_iconst (v := (J 0)) E dX10_isIn_22 (by decide) ?_
      exact x_zret E hr hlk dX10_isIn_23 h.1 ⟨rfl, h.2⟩
    · replace h := xbr_f h c2
      clear c2
      refine x_iload_n E dX10_isIn_10 rfl 0 rfl ?_
      refine x_iconst (v := (J 1)) E dX10_isIn_11 (by decide) ?_
      refine x_iload_n E dX10_isIn_12 rfl 1 rfl ?_
      refine x_ishl E dX10_isIn_13 ?_
      refine x_iand E dX10_isIn_14 ?_
      refine x_if_eq (tgt := 22) E dX10_isIn_15 (by decide) (fun c3 => ?_) (fun c3 => ?_)
      · replace h := xbr_t h c3
        clear c3
        refine x_iconst (v := (J 0)) E dX10_isIn_22 (by decide) ?_
        exact x_zret E hr hlk dX10_isIn_23 h.1 ⟨rfl, h.2⟩
      · replace h := xbr_f h c3
        clear c3
        refine x_iconst (v := (J 1)) E dX10_isIn_18 (by decide) ?_
        refine x_goto (tgt := 23) E dX10_isIn_19 (by decide) ?_
        exact x_zret E hr hlk dX10_isIn_23 h.1 ⟨rfl, h.2⟩
theorem dX9_standsRight_0 : decode cX9_standsRight 0 = .ok (.aload_n 1, 1) := by decide +kernel
theorem dX9_standsRight_1 : decode cX9_standsRight 1 = .ok (.iload_n 3, 1) := by decide +kernel
theorem dX9_standsRight_2 : decode cX9_standsRight 2 = .ok (.invokevirtual 56, 3) := by decide +kernel
theorem dX9_standsRight_5 : decode cX9_standsRight 5 = .ok (.istore 6, 2) := by decide +kernel
theorem dX9_standsRight_7 : decode cX9_standsRight 7 = .ok (.iconst 0, 1) := by decide +kernel
theorem dX9_standsRight_8 : decode cX9_standsRight 8 = .ok (.istore 7, 2) := by decide +kernel
theorem dX9_standsRight_10 : decode cX9_standsRight 10 = .ok (.iload 7, 2) := by decide +kernel
theorem dX9_standsRight_12 : decode cX9_standsRight 12 = .ok (.aload_n 1, 1) := by decide +kernel
theorem dX9_standsRight_13 : decode cX9_standsRight 13 = .ok (.invokevirtual 19, 3) := by decide +kernel
theorem dX9_standsRight_16 : decode cX9_standsRight 16 = .ok (.if_icmp .ge 60, 3) := by decide +kernel
theorem dX9_standsRight_19 : decode cX9_standsRight 19 = .ok (.aload_n 1, 1) := by decide +kernel
theorem dX9_standsRight_20 : decode cX9_standsRight 20 = .ok (.iload 7, 2) := by decide +kernel
theorem dX9_standsRight_22 : decode cX9_standsRight 22 = .ok (.invokevirtual 25, 3) := by decide +kernel
theorem dX9_standsRight_25 : decode cX9_standsRight 25 = .ok (.istore 8, 2) := by decide +kernel
theorem dX9_standsRight_27 : decode cX9_standsRight 27 = .ok (.iload 7, 2) := by decide +kernel
theorem dX9_standsRight_29 : decode cX9_standsRight 29 = .ok (.iload 6, 2) := by decide +kernel
theorem dX9_standsRight_31 : decode cX9_standsRight 31 = .ok (.if_icmp .eq 39, 3) := by decide +kernel
theorem dX9_standsRight_34 : decode cX9_standsRight 34 = .ok (.iload 5, 2) := by decide +kernel
theorem dX9_standsRight_36 : decode cX9_standsRight 36 = .ok (.iload 8, 2) := by decide +kernel
theorem dX9_standsRight_38 : decode cX9_standsRight 38 = .ok (.invokestatic 59, 3) := by decide +kernel
theorem dX9_standsRight_41 : decode cX9_standsRight 41 = .ok (.ifCond .ne 29, 3) := by decide +kernel
theorem dX9_standsRight_44 : decode cX9_standsRight 44 = .ok (.aload_n 2, 1) := by decide +kernel
theorem dX9_standsRight_45 : decode cX9_standsRight 45 = .ok (.iload 8, 2) := by decide +kernel
theorem dX9_standsRight_47 : decode cX9_standsRight 47 = .ok (.iload_n 3, 1) := by decide +kernel
theorem dX9_standsRight_48 : decode cX9_standsRight 48 = .ok (.iload 4, 2) := by decide +kernel
theorem dX9_standsRight_50 : decode cX9_standsRight 50 = .ok (.invokevirtual 33, 3) := by decide +kernel
theorem dX9_standsRight_53 : decode cX9_standsRight 53 = .ok (.iload 7, 2) := by decide +kernel
theorem dX9_standsRight_55 : decode cX9_standsRight 55 = .ok (.iload 6, 2) := by decide +kernel
theorem dX9_standsRight_57 : decode cX9_standsRight 57 = .ok (.if_icmp .ge 7, 3) := by decide +kernel
theorem dX9_standsRight_60 : decode cX9_standsRight 60 = .ok (.iconst 1, 1) := by decide +kernel
theorem dX9_standsRight_61 : decode cX9_standsRight 61 = .ok (.goto 4, 3) := by decide +kernel
theorem dX9_standsRight_64 : decode cX9_standsRight 64 = .ok (.iconst 0, 1) := by decide +kernel
theorem dX9_standsRight_65 : decode cX9_standsRight 65 = .ok (.if_icmp .eq 5, 3) := by decide +kernel
theorem dX9_standsRight_68 : decode cX9_standsRight 68 = .ok (.iconst 0, 1) := by decide +kernel
theorem dX9_standsRight_69 : decode cX9_standsRight 69 = .ok (.ireturn, 1) := by decide +kernel
theorem dX9_standsRight_70 : decode cX9_standsRight 70 = .ok (.iinc 7 1, 3) := by decide +kernel
theorem dX9_standsRight_73 : decode cX9_standsRight 73 = .ok (.goto (-63), 3) := by decide +kernel
theorem dX9_standsRight_76 : decode cX9_standsRight 76 = .ok (.iconst 1, 1) := by decide +kernel
theorem dX9_standsRight_77 : decode cX9_standsRight 77 = .ok (.ireturn, 1) := by decide +kernel
set_option maxHeartbeats 4000000 in
set_option maxRecDepth 100000 in
theorem kX9_standsRight (l : Launch) (z : Nat) (D : va_G) (cA : Nat → ClassId) (a0 : Nat) (a1 : Nat) (a2 : Nat) (x3 : Int32) (x4 : Int32) (x5 : Int32) (M : Mem) (K : Int32 → Prop) (h : PX9_standsRight a0 a1 a2 x3 x4 x5 M K) : Met l yX9_standsRight (.code yX9_standsRight cX9_standsRight 9 (some .boolean) :: gtbl) ({ frames := 3, cells := 0, slots := 0, locals := 71 } : Room) (va_Pc [.ref a0, .ref a1, .ref a2, .int x3, .int x4, .int x5] (xB z D cA M)) (va_Qi (fun r M1 => M1 = M ∧ K r) (xWd z D cA) (xA z)) 0 0 (xA z) := by
  refine x_met (by decide +kernel) (Nat.le_of_ble_eq_true rfl) (L0 := [(0, .ref a0), (1, .ref a1), (2, .ref a2), (3, .int x3), (4, .int x4), (5, .int x5)]) rfl ?_
  intro p e s m args below meth c E hr hlk hnm
  have E : xE RX9 cX9_standsRight 9 D cA p s m args c := E
  replace h := h.2
  refine x_aload_n E dX9_standsRight_0 rfl 1 rfl ?_
  refine x_iload_n E dX9_standsRight_1 rfl 3 rfl ?_
  refine x_callVi (T := TX6) (N := 3) (t := 7) (As := [.int x3]) E mlX9_56 inX6_indexOf seX6_indexOf rfl ⟨by decide, by decide⟩ (tX6_indexOf h) (kX6_indexOf l z D cA a1 x3 M _ h) rfl ⟨rfl, rfl⟩ ⟨Nat.le_of_ble_eq_true rfl, Nat.le_of_ble_eq_true rfl⟩ ⟨(Nat.le_of_ble_eq_true rfl), (Nat.le_of_ble_eq_true rfl)⟩ (Nat.le_of_ble_eq_true rfl) rfl dX9_standsRight_2 (x_pure (fun r1 h => ?_))
  refine x_istore (L' := [(6, .int r1), (0, .ref a0), (1, .ref a1), (2, .ref a2), (3, .int x3), (4, .int x4), (5, .int x5)]) E dX9_standsRight_5 (by decide) rfl ?_
  refine x_iconst (v := (J 0)) E dX9_standsRight_7 (by decide) ?_
  refine x_istore (L' := [(7, .int (J 0)), (6, .int r1), (0, .ref a0), (1, .ref a1), (2, .ref a2), (3, .int x3), (4, .int x4), (5, .int x5)]) E dX9_standsRight_8 (by decide) rfl ?_
  refine x_sub (L' := [(1, .ref a1), (2, .ref a2), (3, .int x3), (4, .int x4), (5, .int x5), (6, .int r1), (7, .int (J 0))]) [3, 4, 5, 6, 7, 1, 0] rfl ?_
  refine lp_sound (T := fun sv => xG p l e ({ frames := 3, cells := 0, slots := 0, locals := 71 } : Room) s m args below meth c (MQ below (va_Qi (fun r M1 => M1 = M ∧ K r) (xWd z D cA) (xA z)) args s 0 0 (xA z)) 9 z D cA M (0) (0) 10 [(1, .ref a1), (2, .ref a2), (3, .int x3), (4, .int x4), (5, .int x5), (6, .int r1), (7, .int sv)] []) ?_ (J 0) h
  clear h
  intro kc10 hk10 sv h
  obtain ⟨x7, esv⟩ : ∃ y, y = sv := ⟨_, rfl⟩
  subst esv
  replace h : CX9_standsRight_10 K M a1 a2 x3 x4 x5 r1 kc10 x7 := h
  try dsimp only
  have hJ65 : ∀ (j7 : Int32) (s0 : Int32) (s1 : Int32), JX9_standsRight_65 K kc10 M a1 a2 x3 x4 x5 r1 j7 s0 s1 → xG p l e ({ frames := 3, cells := 0, slots := 0, locals := 71 } : Room) s m args below meth c (MQ below (va_Qi (fun r M1 => M1 = M ∧ K r) (xWd z D cA) (xA z)) args s 0 0 (xA z)) 9 z D cA M (0) (0) 65 [(1, .ref a1), (2, .ref a2), (3, .int x3), (4, .int x4), (5, .int x5), (6, .int r1), (7, .int j7)] [.int s0, .int s1] := by
    intro j7 s0 s1 h
    refine x_icmp_eq (tgt := 70) E dX9_standsRight_65 (by decide) (fun c15 => ?_) (fun c15 => ?_)
    · replace h := xbr_t h c15
      clear c15
      refine x_iinc (v := (j7 + (J 1))) (L' := [(7, .int (j7 + (J 1))), (1, .ref a1), (2, .ref a2), (3, .int x3), (4, .int x4), (5, .int x5), (6, .int r1)]) E dX9_standsRight_70 6 rfl rfl (by decide) rfl ?_
      refine x_goto (tgt := 10) E dX9_standsRight_73 (by decide) ?_
      refine x_sub (L' := [(1, .ref a1), (2, .ref a2), (3, .int x3), (4, .int x4), (5, .int x5), (6, .int r1), (7, .int (j7 + (J 1)))]) [1, 2, 3, 4, 5, 6, 0] rfl ?_
      exact hk10 (j7 + (J 1)) h
    · replace h := xbr_f h c15
      clear c15
      refine x_iconst (v := (J 0)) E dX9_standsRight_68 (by decide) ?_
      exact x_zret E hr hlk dX9_standsRight_69 h.1 ⟨rfl, h.2⟩
  refine x_iload E dX9_standsRight_10 6 rfl ?_
  refine x_aload_n E dX9_standsRight_12 rfl 0 rfl ?_
  refine x_callVi (T := TX6) (N := 3) (t := 7) (As := []) E mlX9_19 inX6_size seX6_size rfl ⟨by decide, by decide⟩ (tX6_size h) (kX6_size l z D cA a1 M _ h) rfl ⟨rfl, rfl⟩ ⟨Nat.le_of_ble_eq_true rfl, Nat.le_of_ble_eq_true rfl⟩ ⟨(Nat.le_of_ble_eq_true rfl), (Nat.le_of_ble_eq_true rfl)⟩ (Nat.le_of_ble_eq_true rfl) rfl dX9_standsRight_13 (x_pure (fun r3 h => ?_))
  refine x_icmp_ge (tgt := 76) E dX9_standsRight_16 (by decide) (fun c5 => ?_) (fun c5 => ?_)
  · replace h := xbr_t h c5
    clear c5
    refine x_iconst (v := (J 1)) E dX9_standsRight_76 (by decide) ?_
    exact x_zret E hr hlk dX9_standsRight_77 h.1 ⟨rfl, h.2⟩
  · replace h := xbr_f h c5
    clear c5
    refine x_aload_n E dX9_standsRight_19 rfl 0 rfl ?_
    refine x_iload E dX9_standsRight_20 6 rfl ?_
    refine x_callVi (T := TX6) (N := 3) (t := 7) (As := [.int x7]) E mlX9_25 inX6_bookAt seX6_bookAt rfl ⟨by decide, by decide⟩ (tX6_bookAt h) (kX6_bookAt l z D cA a1 x7 M _ h) rfl ⟨rfl, rfl⟩ ⟨Nat.le_of_ble_eq_true rfl, Nat.le_of_ble_eq_true rfl⟩ ⟨(Nat.le_of_ble_eq_true rfl), (Nat.le_of_ble_eq_true rfl)⟩ (Nat.le_of_ble_eq_true rfl) rfl dX9_standsRight_22 (x_pure (fun r6 h => ?_))
    refine x_istore (L' := [(8, .int r6), (1, .ref a1), (2, .ref a2), (3, .int x3), (4, .int x4), (5, .int x5), (6, .int r1), (7, .int x7)]) E dX9_standsRight_25 (by decide) rfl ?_
    refine x_iload E dX9_standsRight_27 7 rfl ?_
    refine x_iload E dX9_standsRight_29 6 rfl ?_
    refine x_icmp_eq (tgt := 70) E dX9_standsRight_31 (by decide) (fun c8 => ?_) (fun c8 => ?_)
    · replace h := xbr_t h c8
      clear c8
      refine x_iinc (v := (x7 + (J 1))) (L' := [(7, .int (x7 + (J 1))), (8, .int r6), (1, .ref a1), (2, .ref a2), (3, .int x3), (4, .int x4), (5, .int x5), (6, .int r1)]) E dX9_standsRight_70 7 rfl rfl (by decide) rfl ?_
      refine x_goto (tgt := 10) E dX9_standsRight_73 (by decide) ?_
      refine x_sub (L' := [(1, .ref a1), (2, .ref a2), (3, .int x3), (4, .int x4), (5, .int x5), (6, .int r1), (7, .int (x7 + (J 1)))]) [2, 3, 4, 5, 6, 7, 0] rfl ?_
      exact hk10 (x7 + (J 1)) h
    · replace h := xbr_f h c8
      clear c8
      refine x_iload E dX9_standsRight_34 5 rfl ?_
      refine x_iload E dX9_standsRight_36 0 rfl ?_
      refine x_callSNi (As := [.int x5, .int r6]) E mlX9_59 stX10_isIn (kX10_isIn l z D cA x5 r6 M _ h) rfl ⟨rfl, rfl⟩ ⟨Nat.le_of_ble_eq_true rfl, Nat.le_of_ble_eq_true rfl⟩ ⟨(Nat.le_of_ble_eq_true rfl), (Nat.le_of_ble_eq_true rfl)⟩ (Nat.le_of_ble_eq_true rfl) rfl dX9_standsRight_38 (x_pure (fun r9 h => ?_))
      refine x_if_ne (tgt := 70) E dX9_standsRight_41 (by decide) (fun c11 => ?_) (fun c11 => ?_)
      · replace h := xbr_f h c11
        clear c11
        refine x_iinc (v := (x7 + (J 1))) (L' := [(7, .int (x7 + (J 1))), (8, .int r6), (1, .ref a1), (2, .ref a2), (3, .int x3), (4, .int x4), (5, .int x5), (6, .int r1)]) E dX9_standsRight_70 7 rfl rfl (by decide) rfl ?_
        refine x_goto (tgt := 10) E dX9_standsRight_73 (by decide) ?_
        refine x_sub (L' := [(1, .ref a1), (2, .ref a2), (3, .int x3), (4, .int x4), (5, .int x5), (6, .int r1), (7, .int (x7 + (J 1)))]) [2, 3, 4, 5, 6, 7, 0] rfl ?_
        exact hk10 (x7 + (J 1)) h
      · replace h := xbr_t h c11
        clear c11
        refine x_aload_n E dX9_standsRight_44 rfl 2 rfl ?_
        refine x_iload E dX9_standsRight_45 0 rfl ?_
        refine x_iload_n E dX9_standsRight_47 rfl 3 rfl ?_
        refine x_iload E dX9_standsRight_48 4 rfl ?_
        refine x_callVi (T := TX2) (N := 4) (t := 3) (As := [.int r6, .int x3, .int x4]) E mlX9_33 inX2_isAhead seX2_isAhead rfl ⟨by decide, by decide⟩ (tX2_isAhead h) (kX2_isAhead l z D cA a2 r6 x3 x4 M _ h) rfl ⟨rfl, rfl⟩ ⟨Nat.le_of_ble_eq_true rfl, Nat.le_of_ble_eq_true rfl⟩ ⟨(Nat.le_of_ble_eq_true rfl), (Nat.le_of_ble_eq_true rfl)⟩ (Nat.le_of_ble_eq_true rfl) rfl dX9_standsRight_50 (x_pure (fun r12 h => ?_))
        refine x_iload E dX9_standsRight_53 7 rfl ?_
        refine x_iload E dX9_standsRight_55 6 rfl ?_
        refine x_icmp_ge (tgt := 64) E dX9_standsRight_57 (by decide) (fun c14 => ?_) (fun c14 => ?_)
        · replace h := xbr_t h c14
          clear c14
          refine x_iconst (v := (J 0)) E dX9_standsRight_64 (by decide) ?_
          refine x_sub (L' := [(1, .ref a1), (2, .ref a2), (3, .int x3), (4, .int x4), (5, .int x5), (6, .int r1), (7, .int x7)]) [1, 2, 3, 4, 5, 6, 7] rfl ?_
          exact hJ65 x7 (J 0) r12 h
        · replace h := xbr_f h c14
          clear c14
          refine x_iconst (v := (J 1)) E dX9_standsRight_60 (by decide) ?_
          refine x_goto (tgt := 65) E dX9_standsRight_61 (by decide) ?_
          refine x_sub (L' := [(1, .ref a1), (2, .ref a2), (3, .int x3), (4, .int x4), (5, .int x5), (6, .int r1), (7, .int x7)]) [1, 2, 3, 4, 5, 6, 7] rfl ?_
          exact hJ65 x7 (J 1) r12 h
theorem dX9_readingOf_0 : decode cX9_readingOf 0 = .ok (.aload_n 0, 1) := by decide +kernel
theorem dX9_readingOf_1 : decode cX9_readingOf 1 = .ok (.aload_n 1, 1) := by decide +kernel
theorem dX9_readingOf_2 : decode cX9_readingOf 2 = .ok (.aload_n 2, 1) := by decide +kernel
theorem dX9_readingOf_3 : decode cX9_readingOf 3 = .ok (.invokevirtual 49, 3) := by decide +kernel
theorem dX9_readingOf_6 : decode cX9_readingOf 6 = .ok (.istore 4, 2) := by decide +kernel
theorem dX9_readingOf_8 : decode cX9_readingOf 8 = .ok (.iconst 0, 1) := by decide +kernel
theorem dX9_readingOf_9 : decode cX9_readingOf 9 = .ok (.istore 5, 2) := by decide +kernel
theorem dX9_readingOf_11 : decode cX9_readingOf 11 = .ok (.iload 5, 2) := by decide +kernel
theorem dX9_readingOf_13 : decode cX9_readingOf 13 = .ok (.iconst 5, 1) := by decide +kernel
theorem dX9_readingOf_14 : decode cX9_readingOf 14 = .ok (.if_icmp .ge 26, 3) := by decide +kernel
theorem dX9_readingOf_17 : decode cX9_readingOf 17 = .ok (.aload_n 0, 1) := by decide +kernel
theorem dX9_readingOf_18 : decode cX9_readingOf 18 = .ok (.aload_n 1, 1) := by decide +kernel
theorem dX9_readingOf_19 : decode cX9_readingOf 19 = .ok (.aload_n 2, 1) := by decide +kernel
theorem dX9_readingOf_20 : decode cX9_readingOf 20 = .ok (.iload_n 3, 1) := by decide +kernel
theorem dX9_readingOf_21 : decode cX9_readingOf 21 = .ok (.iload 5, 2) := by decide +kernel
theorem dX9_readingOf_23 : decode cX9_readingOf 23 = .ok (.iload 4, 2) := by decide +kernel
theorem dX9_readingOf_25 : decode cX9_readingOf 25 = .ok (.invokevirtual 52, 3) := by decide +kernel
theorem dX9_readingOf_28 : decode cX9_readingOf 28 = .ok (.ifCond .eq 6, 3) := by decide +kernel
theorem dX9_readingOf_31 : decode cX9_readingOf 31 = .ok (.iload 5, 2) := by decide +kernel
theorem dX9_readingOf_33 : decode cX9_readingOf 33 = .ok (.ireturn, 1) := by decide +kernel
theorem dX9_readingOf_34 : decode cX9_readingOf 34 = .ok (.iinc 5 1, 3) := by decide +kernel
theorem dX9_readingOf_37 : decode cX9_readingOf 37 = .ok (.goto (-26), 3) := by decide +kernel
theorem dX9_readingOf_40 : decode cX9_readingOf 40 = .ok (.iconst (-1), 1) := by decide +kernel
theorem dX9_readingOf_41 : decode cX9_readingOf 41 = .ok (.ireturn, 1) := by decide +kernel
set_option maxHeartbeats 4000000 in
set_option maxRecDepth 100000 in
theorem kX9_readingOf (l : Launch) (z : Nat) (D : va_G) (cA : Nat → ClassId) (a0 : Nat) (a1 : Nat) (a2 : Nat) (x3 : Int32) (M : Mem) (K : Int32 → Mem → Prop) (h : PX9_readingOf a0 a1 a2 x3 M K) : Met l yX9_readingOf (.code yX9_readingOf cX9_readingOf 6 (some .int) :: gtbl) ({ frames := 5, cells := 0, slots := 0, locals := 124 } : Room) (va_Pc [.ref a0, .ref a1, .ref a2, .int x3] (xB z D cA M)) (va_Qi K (xWd z D cA) (xA z)) 0 0 (xA z) := by
  refine x_met (by decide +kernel) (Nat.le_of_ble_eq_true rfl) (L0 := [(0, .ref a0), (1, .ref a1), (2, .ref a2), (3, .int x3)]) rfl ?_
  intro p e s m args below meth c E hr hlk hnm
  have E : xE RX9 cX9_readingOf 6 D cA p s m args c := E
  replace h := h.2
  refine x_aload_n E dX9_readingOf_0 rfl 0 rfl ?_
  refine x_aload_n E dX9_readingOf_1 rfl 1 rfl ?_
  refine x_aload_n E dX9_readingOf_2 rfl 2 rfl ?_
  refine x_callVi (T := TX9) (N := 1) (t := 10) (As := [.ref a1, .ref a2]) E mlX9_49 inX9_outOfPlace seX9_outOfPlace rfl ⟨by decide, by decide⟩ (tX9_outOfPlace h) (kX9_outOfPlace l z D cA a0 a1 a2 M _ h) rfl ⟨rfl, rfl⟩ ⟨Nat.le_of_ble_eq_true rfl, Nat.le_of_ble_eq_true rfl⟩ ⟨(Nat.le_of_ble_eq_true rfl), (Nat.le_of_ble_eq_true rfl)⟩ (Nat.le_of_ble_eq_true rfl) rfl dX9_readingOf_3 (fun r1 M2 h => ?_)
  refine x_istore (L' := [(4, .int r1), (0, .ref a0), (1, .ref a1), (2, .ref a2), (3, .int x3)]) E dX9_readingOf_6 (by decide) rfl ?_
  refine x_iconst (v := (J 0)) E dX9_readingOf_8 (by decide) ?_
  refine x_istore (L' := [(5, .int (J 0)), (4, .int r1), (0, .ref a0), (1, .ref a1), (2, .ref a2), (3, .int x3)]) E dX9_readingOf_9 (by decide) rfl ?_
  refine x_sub (L' := [(0, .ref a0), (1, .ref a1), (2, .ref a2), (3, .int x3), (4, .int r1), (5, .int (J 0))]) [2, 3, 4, 5, 1, 0] rfl ?_
  refine lp_sound (T := fun sv => xG p l e ({ frames := 5, cells := 0, slots := 0, locals := 124 } : Room) s m args below meth c (MQ below (va_Qi K (xWd z D cA) (xA z)) args s 0 0 (xA z)) 6 z D cA M2 (0) (0) 11 [(0, .ref a0), (1, .ref a1), (2, .ref a2), (3, .int x3), (4, .int r1), (5, .int sv)] []) ?_ (J 0) h
  clear h
  intro kc11 hk11 sv h
  obtain ⟨x5, esv⟩ : ∃ y, y = sv := ⟨_, rfl⟩
  subst esv
  replace h : CX9_readingOf_11 K M2 a0 a1 a2 x3 r1 kc11 x5 := h
  try dsimp only
  refine x_iload E dX9_readingOf_11 5 rfl ?_
  refine x_iconst (v := (J 5)) E dX9_readingOf_13 (by decide) ?_
  refine x_icmp_ge (tgt := 40) E dX9_readingOf_14 (by decide) (fun c3 => ?_) (fun c3 => ?_)
  · replace h := xbr_t h c3
    clear c3
    refine x_iconst (v := (J (-1))) E dX9_readingOf_40 (by decide) ?_
    exact x_iret E hr hlk dX9_readingOf_41 h
  · replace h := xbr_f h c3
    clear c3
    refine x_aload_n E dX9_readingOf_17 rfl 0 rfl ?_
    refine x_aload_n E dX9_readingOf_18 rfl 1 rfl ?_
    refine x_aload_n E dX9_readingOf_19 rfl 2 rfl ?_
    refine x_iload_n E dX9_readingOf_20 rfl 3 rfl ?_
    refine x_iload E dX9_readingOf_21 5 rfl ?_
    refine x_iload E dX9_readingOf_23 4 rfl ?_
    refine x_callVi (T := TX9) (N := 1) (t := 10) (As := [.ref a1, .ref a2, .int x3, .int x5, .int r1]) E mlX9_52 inX9_standsRight seX9_standsRight rfl ⟨by decide, by decide⟩ (tX9_standsRight h) (kX9_standsRight l z D cA a0 a1 a2 x3 x5 r1 M2 _ h) rfl ⟨rfl, rfl⟩ ⟨Nat.le_of_ble_eq_true rfl, Nat.le_of_ble_eq_true rfl⟩ ⟨(Nat.le_of_ble_eq_true rfl), (Nat.le_of_ble_eq_true rfl)⟩ (Nat.le_of_ble_eq_true rfl) rfl dX9_readingOf_25 (x_pure (fun r4 h => ?_))
    refine x_if_eq (tgt := 34) E dX9_readingOf_28 (by decide) (fun c6 => ?_) (fun c6 => ?_)
    · replace h := xbr_t h c6
      clear c6
      refine x_iinc (v := (x5 + (J 1))) (L' := [(5, .int (x5 + (J 1))), (0, .ref a0), (1, .ref a1), (2, .ref a2), (3, .int x3), (4, .int r1)]) E dX9_readingOf_34 5 rfl rfl (by decide) rfl ?_
      refine x_goto (tgt := 11) E dX9_readingOf_37 (by decide) ?_
      refine x_sub (L' := [(0, .ref a0), (1, .ref a1), (2, .ref a2), (3, .int x3), (4, .int r1), (5, .int (x5 + (J 1)))]) [1, 2, 3, 4, 5, 0] rfl ?_
      exact hk11 (x5 + (J 1)) h
    · replace h := xbr_f h c6
      clear c6
      refine x_iload E dX9_readingOf_31 5 rfl ?_
      exact x_iret E hr hlk dX9_readingOf_33 h
theorem dX10_init_0 : decode cX10_init 0 = .ok (.aload_n 0, 1) := by decide +kernel
theorem dX10_init_1 : decode cX10_init 1 = .ok (.invokespecial 1, 3) := by decide +kernel
theorem dX10_init_4 : decode cX10_init 4 = .ok (.aload_n 0, 1) := by decide +kernel
theorem dX10_init_5 : decode cX10_init 5 = .ok (.new 7, 3) := by decide +kernel
theorem dX10_init_8 : decode cX10_init 8 = .ok (.dup, 1) := by decide +kernel
theorem dX10_init_9 : decode cX10_init 9 = .ok (.sipush 600, 3) := by decide +kernel
theorem dX10_init_12 : decode cX10_init 12 = .ok (.invokespecial 11, 3) := by decide +kernel
theorem dX10_init_15 : decode cX10_init 15 = .ok (.putfield 14, 3) := by decide +kernel
theorem dX10_init_18 : decode cX10_init 18 = .ok (.aload_n 0, 1) := by decide +kernel
theorem dX10_init_19 : decode cX10_init 19 = .ok (.new 18, 3) := by decide +kernel
theorem dX10_init_22 : decode cX10_init 22 = .ok (.dup, 1) := by decide +kernel
theorem dX10_init_23 : decode cX10_init 23 = .ok (.invokespecial 20, 3) := by decide +kernel
theorem dX10_init_26 : decode cX10_init 26 = .ok (.putfield 21, 3) := by decide +kernel
theorem dX10_init_29 : decode cX10_init 29 = .ok (.aload_n 0, 1) := by decide +kernel
theorem dX10_init_30 : decode cX10_init 30 = .ok (.new 25, 3) := by decide +kernel
theorem dX10_init_33 : decode cX10_init 33 = .ok (.dup, 1) := by decide +kernel
theorem dX10_init_34 : decode cX10_init 34 = .ok (.invokespecial 27, 3) := by decide +kernel
theorem dX10_init_37 : decode cX10_init 37 = .ok (.putfield 28, 3) := by decide +kernel
theorem dX10_init_40 : decode cX10_init 40 = .ok (.aload_n 0, 1) := by decide +kernel
theorem dX10_init_41 : decode cX10_init 41 = .ok (.new 32, 3) := by decide +kernel
theorem dX10_init_44 : decode cX10_init 44 = .ok (.dup, 1) := by decide +kernel
theorem dX10_init_45 : decode cX10_init 45 = .ok (.invokespecial 34, 3) := by decide +kernel
theorem dX10_init_48 : decode cX10_init 48 = .ok (.putfield 35, 3) := by decide +kernel
theorem dX10_init_51 : decode cX10_init 51 = .ok (.aload_n 0, 1) := by decide +kernel
theorem dX10_init_52 : decode cX10_init 52 = .ok (.new 32, 3) := by decide +kernel
theorem dX10_init_55 : decode cX10_init 55 = .ok (.dup, 1) := by decide +kernel
theorem dX10_init_56 : decode cX10_init 56 = .ok (.invokespecial 34, 3) := by decide +kernel
theorem dX10_init_59 : decode cX10_init 59 = .ok (.putfield 39, 3) := by decide +kernel
theorem dX10_init_62 : decode cX10_init 62 = .ok (.aload_n 0, 1) := by decide +kernel
theorem dX10_init_63 : decode cX10_init 63 = .ok (.new 42, 3) := by decide +kernel
theorem dX10_init_66 : decode cX10_init 66 = .ok (.dup, 1) := by decide +kernel
theorem dX10_init_67 : decode cX10_init 67 = .ok (.invokespecial 44, 3) := by decide +kernel
theorem dX10_init_70 : decode cX10_init 70 = .ok (.putfield 45, 3) := by decide +kernel
theorem dX10_init_73 : decode cX10_init 73 = .ok (.aload_n 0, 1) := by decide +kernel
theorem dX10_init_74 : decode cX10_init 74 = .ok (.new 49, 3) := by decide +kernel
theorem dX10_init_77 : decode cX10_init 77 = .ok (.dup, 1) := by decide +kernel
theorem dX10_init_78 : decode cX10_init 78 = .ok (.invokespecial 51, 3) := by decide +kernel
theorem dX10_init_81 : decode cX10_init 81 = .ok (.putfield 52, 3) := by decide +kernel
theorem dX10_init_84 : decode cX10_init 84 = .ok (.aload_n 0, 1) := by decide +kernel
theorem dX10_init_85 : decode cX10_init 85 = .ok (.new 56, 3) := by decide +kernel
theorem dX10_init_88 : decode cX10_init 88 = .ok (.dup, 1) := by decide +kernel
theorem dX10_init_89 : decode cX10_init 89 = .ok (.invokespecial 58, 3) := by decide +kernel
theorem dX10_init_92 : decode cX10_init 92 = .ok (.putfield 59, 3) := by decide +kernel
theorem dX10_init_95 : decode cX10_init 95 = .ok (.aload_n 0, 1) := by decide +kernel
theorem dX10_init_96 : decode cX10_init 96 = .ok (.new 63, 3) := by decide +kernel
theorem dX10_init_99 : decode cX10_init 99 = .ok (.dup, 1) := by decide +kernel
theorem dX10_init_100 : decode cX10_init 100 = .ok (.invokespecial 65, 3) := by decide +kernel
theorem dX10_init_103 : decode cX10_init 103 = .ok (.putfield 66, 3) := by decide +kernel
theorem dX10_init_106 : decode cX10_init 106 = .ok (.aload_n 0, 1) := by decide +kernel
theorem dX10_init_107 : decode cX10_init 107 = .ok (.new 63, 3) := by decide +kernel
theorem dX10_init_110 : decode cX10_init 110 = .ok (.dup, 1) := by decide +kernel
theorem dX10_init_111 : decode cX10_init 111 = .ok (.invokespecial 65, 3) := by decide +kernel
theorem dX10_init_114 : decode cX10_init 114 = .ok (.putfield 70, 3) := by decide +kernel
theorem dX10_init_117 : decode cX10_init 117 = .ok (.aload_n 0, 1) := by decide +kernel
theorem dX10_init_118 : decode cX10_init 118 = .ok (.iconst (-1), 1) := by decide +kernel
theorem dX10_init_119 : decode cX10_init 119 = .ok (.putfield 73, 3) := by decide +kernel
theorem dX10_init_122 : decode cX10_init 122 = .ok (.aload_n 0, 1) := by decide +kernel
theorem dX10_init_123 : decode cX10_init 123 = .ok (.iconst 0, 1) := by decide +kernel
theorem dX10_init_124 : decode cX10_init 124 = .ok (.putfield 77, 3) := by decide +kernel
theorem dX10_init_127 : decode cX10_init 127 = .ok (.aload_n 0, 1) := by decide +kernel
theorem dX10_init_128 : decode cX10_init 128 = .ok (.iconst 0, 1) := by decide +kernel
theorem dX10_init_129 : decode cX10_init 129 = .ok (.putfield 80, 3) := by decide +kernel
theorem dX10_init_132 : decode cX10_init 132 = .ok (.return_, 1) := by decide +kernel
set_option maxHeartbeats 4000000 in
set_option maxRecDepth 100000 in
theorem kX10_init (l : Launch) (z : Nat) (D : va_G) (cA : Nat → ClassId) (a0 : Nat) (M : Mem) (K : Mem → Prop) (h : PX10_init a0 M K) : Met l yX10_init (.code yX10_init cX10_init 1 none :: gtbl) ({ frames := 4, cells := 127, slots := 29784, locals := 83 } : Room) (va_Pc [.ref a0] (xB z D cA M)) (va_Qv K (xWd z D cA) (xA z)) 127 29784 (xA z) := by
  refine x_met (by decide +kernel) (Nat.le_of_ble_eq_true rfl) (L0 := [(0, .ref a0)]) rfl ?_
  intro p e s m args below meth c E hr hlk hnm
  have E : xE RX10 cX10_init 1 D cA p s m args c := E
  replace h := h.2
  refine x_aload_n E dX10_init_0 rfl 0 rfl ?_
  refine x_objInit E (gw 20 (by decide +kernel) rfl) (gw 21 (by decide +kernel) rfl) (gw 22 (by decide +kernel) rfl) dX10_init_1 (Nat.le_of_ble_eq_true rfl) (Nat.le_of_ble_eq_true rfl) ?_
  refine x_aload_n E dX10_init_4 rfl 0 rfl ?_
  refine x_new (ty := tyX1) E (C := RX1) (T := TX1) (N := 2) (t := 2) rfl ⟨by decide, by decide⟩ uiX1 tyX1_ok (gw 23 (by decide +kernel) rfl) (gw 24 (by decide +kernel) rfl) (gw 2 (by decide +kernel) rfl) (Nat.le_of_ble_eq_true rfl) (Nat.le_of_ble_eq_true rfl) dX10_init_5 (fun q1 M2 eq1 eM2 => ?_)
  replace h := h q1 M2 eq1 eM2
  clear eq1 eM2
  refine x_dup E dX10_init_8 rfl ?_
  refine x_sipush (v := (J 600)) E dX10_init_9 (by decide) ?_
  refine x_callI (As := [.int (J 600)]) E mlX10_11 inX1_init rfl (kX1_init l z D cA q1 (J 600) M2 _ h) rfl ⟨rfl, rfl⟩ ⟨Nat.le_of_ble_eq_true rfl, Nat.le_of_ble_eq_true rfl⟩ ⟨(Nat.le_of_ble_eq_true rfl), (Nat.le_of_ble_eq_true rfl)⟩ (Nat.le_of_ble_eq_true rfl) rfl dX10_init_12 (fun M4 h => ?_)
  obtain ⟨hT, h⟩ := h
  refine x_putF E flX10_14 (gw 224 (by decide +kernel) rfl) ⟨tyX10_ok, nmX10, rfl⟩ rfl hnm (by decide +kernel) rfl rfl dX10_init_15 hT (fun M5 eM5 => ?_)
  replace h := h M5 eM5
  clear hT eM5
  refine x_aload_n E dX10_init_18 rfl 0 rfl ?_
  refine x_new (ty := tyX2) E (C := RX2) (T := TX2) (N := 4) (t := 3) rfl ⟨by decide, by decide⟩ uiX2 tyX2_ok (gw 40 (by decide +kernel) rfl) (gw 41 (by decide +kernel) rfl) (gw 4 (by decide +kernel) rfl) (Nat.le_of_ble_eq_true rfl) (Nat.le_of_ble_eq_true rfl) dX10_init_19 (fun q6 M7 eq6 eM7 => ?_)
  replace h := h q6 M7 eq6 eM7
  clear eq6 eM7
  refine x_dup E dX10_init_22 rfl ?_
  refine x_callI (As := []) E mlX10_20 inX2_init rfl (kX2_init l z D cA q6 M7 _ h) rfl ⟨rfl, rfl⟩ ⟨Nat.le_of_ble_eq_true rfl, Nat.le_of_ble_eq_true rfl⟩ ⟨(Nat.le_of_ble_eq_true rfl), (Nat.le_of_ble_eq_true rfl)⟩ (Nat.le_of_ble_eq_true rfl) rfl dX10_init_23 (fun M9 h => ?_)
  obtain ⟨hT, h⟩ := h
  refine x_putF E flX10_21 (gw 225 (by decide +kernel) rfl) ⟨tyX10_ok, nmX10, rfl⟩ rfl hnm (by decide +kernel) rfl rfl dX10_init_26 hT (fun M10 eM10 => ?_)
  replace h := h M10 eM10
  clear hT eM10
  refine x_aload_n E dX10_init_29 rfl 0 rfl ?_
  refine x_new (ty := tyX8) E (C := RX8) (T := TX8) (N := 1) (t := 9) rfl ⟨by decide, by decide⟩ uiX8 tyX8_ok (gw 122 (by decide +kernel) rfl) (gw 123 (by decide +kernel) rfl) (gw 6 (by decide +kernel) rfl) (Nat.le_of_ble_eq_true rfl) (Nat.le_of_ble_eq_true rfl) dX10_init_30 (fun q11 M12 eq11 eM12 => ?_)
  replace h := h q11 M12 eq11 eM12
  clear eq11 eM12
  refine x_dup E dX10_init_33 rfl ?_
  refine x_callI (As := []) E mlX10_27 inX8_init rfl (kX8_init l z D cA q11 M12 _ h) rfl ⟨rfl, rfl⟩ ⟨Nat.le_of_ble_eq_true rfl, Nat.le_of_ble_eq_true rfl⟩ ⟨(Nat.le_of_ble_eq_true rfl), (Nat.le_of_ble_eq_true rfl)⟩ (Nat.le_of_ble_eq_true rfl) rfl dX10_init_34 (fun M14 h => ?_)
  obtain ⟨hT, h⟩ := h
  refine x_putF E flX10_28 (gw 226 (by decide +kernel) rfl) ⟨tyX10_ok, nmX10, rfl⟩ rfl hnm (by decide +kernel) rfl rfl dX10_init_37 hT (fun M15 eM15 => ?_)
  replace h := h M15 eM15
  clear hT eM15
  refine x_aload_n E dX10_init_40 rfl 0 rfl ?_
  refine x_new (ty := tyX6) E (C := RX6) (T := TX6) (N := 3) (t := 7) rfl ⟨by decide, by decide⟩ uiX6 tyX6_ok (gw 135 (by decide +kernel) rfl) (gw 136 (by decide +kernel) rfl) (gw 7 (by decide +kernel) rfl) (Nat.le_of_ble_eq_true rfl) (Nat.le_of_ble_eq_true rfl) dX10_init_41 (fun q16 M17 eq16 eM17 => ?_)
  replace h := h q16 M17 eq16 eM17
  clear eq16 eM17
  refine x_dup E dX10_init_44 rfl ?_
  refine x_callI (As := []) E mlX10_34 inX6_init rfl (kX6_init l z D cA q16 M17 _ h) rfl ⟨rfl, rfl⟩ ⟨Nat.le_of_ble_eq_true rfl, Nat.le_of_ble_eq_true rfl⟩ ⟨(Nat.le_of_ble_eq_true rfl), (Nat.le_of_ble_eq_true rfl)⟩ (Nat.le_of_ble_eq_true rfl) rfl dX10_init_45 (fun M19 h => ?_)
  obtain ⟨hT, h⟩ := h
  refine x_putF E flX10_35 (gw 227 (by decide +kernel) rfl) ⟨tyX10_ok, nmX10, rfl⟩ rfl hnm (by decide +kernel) rfl rfl dX10_init_48 hT (fun M20 eM20 => ?_)
  replace h := h M20 eM20
  clear hT eM20
  refine x_aload_n E dX10_init_51 rfl 0 rfl ?_
  refine x_new (ty := tyX6) E (C := RX6) (T := TX6) (N := 3) (t := 7) rfl ⟨by decide, by decide⟩ uiX6 tyX6_ok (gw 135 (by decide +kernel) rfl) (gw 136 (by decide +kernel) rfl) (gw 7 (by decide +kernel) rfl) (Nat.le_of_ble_eq_true rfl) (Nat.le_of_ble_eq_true rfl) dX10_init_52 (fun q21 M22 eq21 eM22 => ?_)
  replace h := h q21 M22 eq21 eM22
  clear eq21 eM22
  refine x_dup E dX10_init_55 rfl ?_
  refine x_callI (As := []) E mlX10_34 inX6_init rfl (kX6_init l z D cA q21 M22 _ h) rfl ⟨rfl, rfl⟩ ⟨Nat.le_of_ble_eq_true rfl, Nat.le_of_ble_eq_true rfl⟩ ⟨(Nat.le_of_ble_eq_true rfl), (Nat.le_of_ble_eq_true rfl)⟩ (Nat.le_of_ble_eq_true rfl) rfl dX10_init_56 (fun M24 h => ?_)
  obtain ⟨hT, h⟩ := h
  refine x_putF E flX10_39 (gw 228 (by decide +kernel) rfl) ⟨tyX10_ok, nmX10, rfl⟩ rfl hnm (by decide +kernel) rfl rfl dX10_init_59 hT (fun M25 eM25 => ?_)
  replace h := h M25 eM25
  clear hT eM25
  refine x_aload_n E dX10_init_62 rfl 0 rfl ?_
  refine x_new (ty := tyX9) E (C := RX9) (T := TX9) (N := 1) (t := 10) rfl ⟨by decide, by decide⟩ uiX9 tyX9_ok (gw 156 (by decide +kernel) rfl) (gw 157 (by decide +kernel) rfl) (gw 8 (by decide +kernel) rfl) (Nat.le_of_ble_eq_true rfl) (Nat.le_of_ble_eq_true rfl) dX10_init_63 (fun q26 M27 eq26 eM27 => ?_)
  replace h := h q26 M27 eq26 eM27
  clear eq26 eM27
  refine x_dup E dX10_init_66 rfl ?_
  refine x_callIN (As := []) E mlX10_44 inX9_init rfl (kX9_init l z D cA q26 M27 _ h) rfl ⟨rfl, rfl⟩ ⟨Nat.le_of_ble_eq_true rfl, Nat.le_of_ble_eq_true rfl⟩ ⟨(Nat.le_of_ble_eq_true rfl), (Nat.le_of_ble_eq_true rfl)⟩ (Nat.le_of_ble_eq_true rfl) rfl dX10_init_67 (fun M29 h => ?_)
  obtain ⟨hT, h⟩ := h
  refine x_putF E flX10_45 (gw 229 (by decide +kernel) rfl) ⟨tyX10_ok, nmX10, rfl⟩ rfl hnm (by decide +kernel) rfl rfl dX10_init_70 hT (fun M30 eM30 => ?_)
  replace h := h M30 eM30
  clear hT eM30
  refine x_aload_n E dX10_init_73 rfl 0 rfl ?_
  refine x_new (ty := tyX3) E (C := RX3) (T := TX3) (N := 1) (t := 4) rfl ⟨by decide, by decide⟩ uiX3 tyX3_ok (gw 166 (by decide +kernel) rfl) (gw 167 (by decide +kernel) rfl) (gw 9 (by decide +kernel) rfl) (Nat.le_of_ble_eq_true rfl) (Nat.le_of_ble_eq_true rfl) dX10_init_74 (fun q31 M32 eq31 eM32 => ?_)
  replace h := h q31 M32 eq31 eM32
  clear eq31 eM32
  refine x_dup E dX10_init_77 rfl ?_
  refine x_callI (As := []) E mlX10_51 inX3_init rfl (kX3_init l z D cA q31 M32 _ h) rfl ⟨rfl, rfl⟩ ⟨Nat.le_of_ble_eq_true rfl, Nat.le_of_ble_eq_true rfl⟩ ⟨(Nat.le_of_ble_eq_true rfl), (Nat.le_of_ble_eq_true rfl)⟩ (Nat.le_of_ble_eq_true rfl) rfl dX10_init_78 (fun M34 h => ?_)
  obtain ⟨hT, h⟩ := h
  refine x_putF E flX10_52 (gw 230 (by decide +kernel) rfl) ⟨tyX10_ok, nmX10, rfl⟩ rfl hnm (by decide +kernel) rfl rfl dX10_init_81 hT (fun M35 eM35 => ?_)
  replace h := h M35 eM35
  clear hT eM35
  refine x_aload_n E dX10_init_84 rfl 0 rfl ?_
  refine x_new (ty := tyX7) E (C := RX7) (T := TX7) (N := 5) (t := 8) rfl ⟨by decide, by decide⟩ uiX7 tyX7_ok (gw 177 (by decide +kernel) rfl) (gw 178 (by decide +kernel) rfl) (gw 10 (by decide +kernel) rfl) (Nat.le_of_ble_eq_true rfl) (Nat.le_of_ble_eq_true rfl) dX10_init_85 (fun q36 M37 eq36 eM37 => ?_)
  replace h := h q36 M37 eq36 eM37
  clear eq36 eM37
  refine x_dup E dX10_init_88 rfl ?_
  refine x_callIN (As := []) E mlX10_58 inX7_init rfl (kX7_init l z D cA q36 M37 _ h) rfl ⟨rfl, rfl⟩ ⟨Nat.le_of_ble_eq_true rfl, Nat.le_of_ble_eq_true rfl⟩ ⟨(Nat.le_of_ble_eq_true rfl), (Nat.le_of_ble_eq_true rfl)⟩ (Nat.le_of_ble_eq_true rfl) rfl dX10_init_89 (fun M39 h => ?_)
  obtain ⟨hT, h⟩ := h
  refine x_putF E flX10_59 (gw 231 (by decide +kernel) rfl) ⟨tyX10_ok, nmX10, rfl⟩ rfl hnm (by decide +kernel) rfl rfl dX10_init_92 hT (fun M40 eM40 => ?_)
  replace h := h M40 eM40
  clear hT eM40
  refine x_aload_n E dX10_init_95 rfl 0 rfl ?_
  refine x_new (ty := tyX4) E (C := RX4) (T := TX4) (N := 4) (t := 5) rfl ⟨by decide, by decide⟩ uiX4 tyX4_ok (gw 199 (by decide +kernel) rfl) (gw 200 (by decide +kernel) rfl) (gw 11 (by decide +kernel) rfl) (Nat.le_of_ble_eq_true rfl) (Nat.le_of_ble_eq_true rfl) dX10_init_96 (fun q41 M42 eq41 eM42 => ?_)
  replace h := h q41 M42 eq41 eM42
  clear eq41 eM42
  refine x_dup E dX10_init_99 rfl ?_
  refine x_callIN (As := []) E mlX10_65 inX4_init rfl (kX4_init l z D cA q41 M42 _ h) rfl ⟨rfl, rfl⟩ ⟨Nat.le_of_ble_eq_true rfl, Nat.le_of_ble_eq_true rfl⟩ ⟨(Nat.le_of_ble_eq_true rfl), (Nat.le_of_ble_eq_true rfl)⟩ (Nat.le_of_ble_eq_true rfl) rfl dX10_init_100 (fun M44 h => ?_)
  obtain ⟨hT, h⟩ := h
  refine x_putF E flX10_66 (gw 232 (by decide +kernel) rfl) ⟨tyX10_ok, nmX10, rfl⟩ rfl hnm (by decide +kernel) rfl rfl dX10_init_103 hT (fun M45 eM45 => ?_)
  replace h := h M45 eM45
  clear hT eM45
  refine x_aload_n E dX10_init_106 rfl 0 rfl ?_
  refine x_new (ty := tyX4) E (C := RX4) (T := TX4) (N := 4) (t := 5) rfl ⟨by decide, by decide⟩ uiX4 tyX4_ok (gw 199 (by decide +kernel) rfl) (gw 200 (by decide +kernel) rfl) (gw 11 (by decide +kernel) rfl) (Nat.le_of_ble_eq_true rfl) (Nat.le_of_ble_eq_true rfl) dX10_init_107 (fun q46 M47 eq46 eM47 => ?_)
  replace h := h q46 M47 eq46 eM47
  clear eq46 eM47
  refine x_dup E dX10_init_110 rfl ?_
  refine x_callIN (As := []) E mlX10_65 inX4_init rfl (kX4_init l z D cA q46 M47 _ h) rfl ⟨rfl, rfl⟩ ⟨Nat.le_of_ble_eq_true rfl, Nat.le_of_ble_eq_true rfl⟩ ⟨(Nat.le_of_ble_eq_true rfl), (Nat.le_of_ble_eq_true rfl)⟩ (Nat.le_of_ble_eq_true rfl) rfl dX10_init_111 (fun M49 h => ?_)
  obtain ⟨hT, h⟩ := h
  refine x_putF E flX10_70 (gw 233 (by decide +kernel) rfl) ⟨tyX10_ok, nmX10, rfl⟩ rfl hnm (by decide +kernel) rfl rfl dX10_init_114 hT (fun M50 eM50 => ?_)
  replace h := h M50 eM50
  clear hT eM50
  refine x_aload_n E dX10_init_117 rfl 0 rfl ?_
  refine x_iconst (v := (J (-1))) E dX10_init_118 (by decide) ?_
  obtain ⟨hT, h⟩ := h
  refine x_put E flX10_73 ⟨tyX10_ok, nmX10, rfl⟩ (by decide +kernel) rfl rfl dX10_init_119 hT (fun M51 eM51 => ?_)
  replace h := h M51 eM51
  clear hT eM51
  refine x_aload_n E dX10_init_122 rfl 0 rfl ?_
  refine x_iconst (v := (J 0)) E dX10_init_123 (by decide) ?_
  obtain ⟨hT, h⟩ := h
  refine x_put E flX10_77 ⟨tyX10_ok, nmX10, rfl⟩ (by decide +kernel) rfl rfl dX10_init_124 hT (fun M52 eM52 => ?_)
  replace h := h M52 eM52
  clear hT eM52
  refine x_aload_n E dX10_init_127 rfl 0 rfl ?_
  refine x_iconst (v := (J 0)) E dX10_init_128 (by decide) ?_
  obtain ⟨hT, h⟩ := h
  refine x_put E flX10_80 ⟨tyX10_ok, nmX10, rfl⟩ (by decide +kernel) rfl rfl dX10_init_129 hT (fun M53 eM53 => ?_)
  replace h := h M53 eM53
  clear hT eM53
  refine x_widen (k' := 127) (n' := 29784) (Nat.le_of_ble_eq_true rfl) (Nat.le_of_ble_eq_true rfl) ?_
  exact x_vret E hr hlk dX10_init_132 h
theorem dX10_feed_0 : decode cX10_feed 0 = .ok (.iload_n 1, 1) := by decide +kernel
theorem dX10_feed_1 : decode cX10_feed 1 = .ok (.iconst 1, 1) := by decide +kernel
theorem dX10_feed_2 : decode cX10_feed 2 = .ok (.if_icmp .lt 9, 3) := by decide +kernel
theorem dX10_feed_5 : decode cX10_feed 5 = .ok (.iload_n 1, 1) := by decide +kernel
theorem dX10_feed_6 : decode cX10_feed 6 = .ok (.bipush 8, 2) := by decide +kernel
theorem dX10_feed_8 : decode cX10_feed 8 = .ok (.if_icmp .le 7, 3) := by decide +kernel
theorem dX10_feed_11 : decode cX10_feed 11 = .ok (.sipush (-1002), 3) := by decide +kernel
theorem dX10_feed_14 : decode cX10_feed 14 = .ok (.ireturn, 1) := by decide +kernel
theorem dX10_feed_15 : decode cX10_feed 15 = .ok (.aload_n 0, 1) := by decide +kernel
theorem dX10_feed_16 : decode cX10_feed 16 = .ok (.getfield 14, 3) := by decide +kernel
theorem dX10_feed_19 : decode cX10_feed 19 = .ok (.invokevirtual 83, 3) := by decide +kernel
theorem dX10_feed_22 : decode cX10_feed 22 = .ok (.iload_n 1, 1) := by decide +kernel
theorem dX10_feed_23 : decode cX10_feed 23 = .ok (.iadd, 1) := by decide +kernel
theorem dX10_feed_24 : decode cX10_feed 24 = .ok (.sipush 600, 3) := by decide +kernel
theorem dX10_feed_27 : decode cX10_feed 27 = .ok (.if_icmp .le 7, 3) := by decide +kernel
theorem dX10_feed_30 : decode cX10_feed 30 = .ok (.sipush (-1004), 3) := by decide +kernel
theorem dX10_feed_33 : decode cX10_feed 33 = .ok (.ireturn, 1) := by decide +kernel
theorem dX10_feed_34 : decode cX10_feed 34 = .ok (.iload_n 1, 1) := by decide +kernel
theorem dX10_feed_35 : decode cX10_feed 35 = .ok (.iconst 1, 1) := by decide +kernel
theorem dX10_feed_36 : decode cX10_feed 36 = .ok (.isub, 1) := by decide +kernel
theorem dX10_feed_37 : decode cX10_feed 37 = .ok (.istore 4, 2) := by decide +kernel
theorem dX10_feed_39 : decode cX10_feed 39 = .ok (.iload 4, 2) := by decide +kernel
theorem dX10_feed_41 : decode cX10_feed 41 = .ok (.ifCond .lt 28, 3) := by decide +kernel
theorem dX10_feed_44 : decode cX10_feed 44 = .ok (.aload_n 0, 1) := by decide +kernel
theorem dX10_feed_45 : decode cX10_feed 45 = .ok (.getfield 14, 3) := by decide +kernel
theorem dX10_feed_48 : decode cX10_feed 48 = .ok (.lload_n 2, 1) := by decide +kernel
theorem dX10_feed_49 : decode cX10_feed 49 = .ok (.bipush 8, 2) := by decide +kernel
theorem dX10_feed_51 : decode cX10_feed 51 = .ok (.iload 4, 2) := by decide +kernel
theorem dX10_feed_53 : decode cX10_feed 53 = .ok (.imul, 1) := by decide +kernel
theorem dX10_feed_54 : decode cX10_feed 54 = .ok (.lushr, 1) := by decide +kernel
theorem dX10_feed_55 : decode cX10_feed 55 = .ok (.ldc2_w 87, 3) := by decide +kernel
theorem dX10_feed_58 : decode cX10_feed 58 = .ok (.land, 1) := by decide +kernel
theorem dX10_feed_59 : decode cX10_feed 59 = .ok (.l2i, 1) := by decide +kernel
theorem dX10_feed_60 : decode cX10_feed 60 = .ok (.invokevirtual 89, 3) := by decide +kernel
theorem dX10_feed_63 : decode cX10_feed 63 = .ok (.iinc 4 (-1), 3) := by decide +kernel
theorem dX10_feed_66 : decode cX10_feed 66 = .ok (.goto (-27), 3) := by decide +kernel
theorem dX10_feed_69 : decode cX10_feed 69 = .ok (.aload_n 0, 1) := by decide +kernel
theorem dX10_feed_70 : decode cX10_feed 70 = .ok (.getfield 14, 3) := by decide +kernel
theorem dX10_feed_73 : decode cX10_feed 73 = .ok (.invokevirtual 83, 3) := by decide +kernel
theorem dX10_feed_76 : decode cX10_feed 76 = .ok (.ireturn, 1) := by decide +kernel
set_option maxHeartbeats 4000000 in
set_option maxRecDepth 100000 in
theorem kX10_feed (l : Launch) (z : Nat) (D : va_G) (cA : Nat → ClassId) (a0 : Nat) (x1 : Int32) (x2 : Int64) (M : Mem) (K : Int32 → Mem → Prop) (h : PX10_feed a0 x1 x2 M K) : Met l yX10_feed (.code yX10_feed cX10_feed 5 (some .int) :: gtbl) ({ frames := 1, cells := 0, slots := 0, locals := 21 } : Room) (va_Pc [.ref a0, .int x1, .long x2] (xB z D cA M)) (va_Qi K (xWd z D cA) (xA z)) 0 0 (xA z) := by
  refine x_met (by decide +kernel) (Nat.le_of_ble_eq_true rfl) (L0 := [(0, .ref a0), (1, .int x1), (2, .long x2)]) rfl ?_
  intro p e s m args below meth c E hr hlk hnm
  have E : xE RX10 cX10_feed 5 D cA p s m args c := E
  replace h := h.2
  refine x_iload_n E dX10_feed_0 rfl 1 rfl ?_
  refine x_iconst (v := (J 1)) E dX10_feed_1 (by decide) ?_
  refine x_icmp_lt (tgt := 11) E dX10_feed_2 (by decide) (fun c1 => ?_) (fun c1 => ?_)
  · replace h := xbr_t h c1
    clear c1
    refine x_sipush (v := (J (-1002))) E dX10_feed_11 (by decide) ?_
    exact x_iret E hr hlk dX10_feed_14 h
  · replace h := xbr_f h c1
    clear c1
    refine x_iload_n E dX10_feed_5 rfl 1 rfl ?_
    refine x_bipush (v := (J 8)) E dX10_feed_6 (by decide) ?_
    refine x_icmp_le (tgt := 15) E dX10_feed_8 (by decide) (fun c2 => ?_) (fun c2 => ?_)
    · replace h := xbr_t h c2
      clear c2
      refine x_aload_n E dX10_feed_15 rfl 0 rfl ?_
      obtain ⟨hT, q3, hv, h⟩ := h
      refine x_get E flX10_14 dX10_feed_16 hT hv ?_
      clear hT hv
      refine x_callVi (T := TX1) (N := 2) (t := 2) (As := []) E mlX10_83 inX1_size seX1_size rfl ⟨by decide, by decide⟩ (tX1_size h) (kX1_size l z D cA q3 M _ h) rfl ⟨rfl, rfl⟩ ⟨Nat.le_of_ble_eq_true rfl, Nat.le_of_ble_eq_true rfl⟩ ⟨(Nat.le_of_ble_eq_true rfl), (Nat.le_of_ble_eq_true rfl)⟩ (Nat.le_of_ble_eq_true rfl) rfl dX10_feed_19 (x_pure (fun r4 h => ?_))
      refine x_iload_n E dX10_feed_22 rfl 1 rfl ?_
      refine x_iadd E dX10_feed_23 ?_
      refine x_sipush (v := (J 600)) E dX10_feed_24 (by decide) ?_
      refine x_icmp_le (tgt := 34) E dX10_feed_27 (by decide) (fun c6 => ?_) (fun c6 => ?_)
      · replace h := xbr_t h c6
        clear c6
        refine x_iload_n E dX10_feed_34 rfl 1 rfl ?_
        refine x_iconst (v := (J 1)) E dX10_feed_35 (by decide) ?_
        refine x_isub E dX10_feed_36 ?_
        obtain ⟨y7, ey7, h⟩ := h
        refine x_top (v := .int y7) (congrArg _ ey7) ?_
        clear ey7
        refine x_istore (L' := [(4, .int y7), (0, .ref a0), (1, .int x1), (2, .long x2)]) E dX10_feed_37 (by decide) rfl ?_
        refine x_sub (L' := [(0, .ref a0), (2, .long x2), (4, .int y7)]) [1, 3, 0] rfl ?_
        refine lp_sound (T := fun sv => xG p l e ({ frames := 1, cells := 0, slots := 0, locals := 21 } : Room) s m args below meth c (MQ below (va_Qi K (xWd z D cA) (xA z)) args s 0 0 (xA z)) 5 z D cA sv.1 (0) (0) 39 [(0, .ref a0), (2, .long x2), (4, .int sv.2)] []) ?_ (M, y7) h
        clear h
        intro kc39 hk39 sv h
        obtain ⟨M, x4⟩ := sv
        replace h : CX10_feed_39 K a0 x2 kc39 M x4 := h
        try dsimp only
        refine x_iload E dX10_feed_39 2 rfl ?_
        refine x_if_lt (tgt := 69) E dX10_feed_41 (by decide) (fun c8 => ?_) (fun c8 => ?_)
        · replace h := xbr_t h c8
          clear c8
          refine x_aload_n E dX10_feed_69 rfl 0 rfl ?_
          obtain ⟨hT, q9, hv, h⟩ := h
          refine x_get E flX10_14 dX10_feed_70 hT hv ?_
          clear hT hv
          refine x_callVi (T := TX1) (N := 2) (t := 2) (As := []) E mlX10_83 inX1_size seX1_size rfl ⟨by decide, by decide⟩ (tX1_size h) (kX1_size l z D cA q9 M _ h) rfl ⟨rfl, rfl⟩ ⟨Nat.le_of_ble_eq_true rfl, Nat.le_of_ble_eq_true rfl⟩ ⟨(Nat.le_of_ble_eq_true rfl), (Nat.le_of_ble_eq_true rfl)⟩ (Nat.le_of_ble_eq_true rfl) rfl dX10_feed_73 (x_pure (fun r10 h => ?_))
          exact x_iret E hr hlk dX10_feed_76 h
        · replace h := xbr_f h c8
          clear c8
          refine x_aload_n E dX10_feed_44 rfl 0 rfl ?_
          obtain ⟨hT, q12, hv, h⟩ := h
          refine x_get E flX10_14 dX10_feed_45 hT hv ?_
          clear hT hv
          refine x_lload_n E dX10_feed_48 rfl 1 rfl ?_
          refine x_bipush (v := (J 8)) E dX10_feed_49 (by decide) ?_
          refine x_iload E dX10_feed_51 2 rfl ?_
          refine x_imul E dX10_feed_53 ?_
          refine x_lushr E dX10_feed_54 ?_
          refine x_ldc2 (v := (LJ 255)) E (gw 272 (by decide +kernel) rfl) dX10_feed_55 ?_
          refine x_land E dX10_feed_58 ?_
          refine x_l2i E dX10_feed_59 ?_
          refine x_callVv (T := TX1) (N := 2) (t := 2) (As := [.int (((x2.toUInt64 >>> (((J 8) * x4).toInt64.toUInt64 &&& Int64.toUInt64 63)).toInt64) &&& (LJ 255)).toInt32]) E mlX10_89 inX1_append seX1_append rfl ⟨by decide, by decide⟩ (tX1_append h) (kX1_append l z D cA q12 (((x2.toUInt64 >>> (((J 8) * x4).toInt64.toUInt64 &&& Int64.toUInt64 63)).toInt64) &&& (LJ 255)).toInt32 M _ h) rfl ⟨rfl, rfl⟩ ⟨Nat.le_of_ble_eq_true rfl, Nat.le_of_ble_eq_true rfl⟩ ⟨(Nat.le_of_ble_eq_true rfl), (Nat.le_of_ble_eq_true rfl)⟩ (Nat.le_of_ble_eq_true rfl) rfl dX10_feed_60 (fun M14 h => ?_)
          refine x_iinc (v := (x4 + (J (-1)))) (L' := [(4, .int (x4 + (J (-1)))), (0, .ref a0), (2, .long x2)]) E dX10_feed_63 2 rfl rfl (by decide) rfl ?_
          refine x_goto (tgt := 39) E dX10_feed_66 (by decide) ?_
          refine x_sub (L' := [(0, .ref a0), (2, .long x2), (4, .int (x4 + (J (-1))))]) [1, 2, 0] rfl ?_
          exact hk39 (M14, (x4 + (J (-1)))) h
      · replace h := xbr_f h c6
        clear c6
        refine x_sipush (v := (J (-1004))) E dX10_feed_30 (by decide) ?_
        exact x_iret E hr hlk dX10_feed_33 h
    · replace h := xbr_f h c2
      clear c2
      refine x_sipush (v := (J (-1002))) E dX10_feed_11 (by decide) ?_
      exact x_iret E hr hlk dX10_feed_14 h
theorem dX10_books_0 : decode cX10_books 0 = .ok (.new 92, 3) := by decide +kernel
theorem dX10_books_3 : decode cX10_books 3 = .ok (.dup, 1) := by decide +kernel
theorem dX10_books_4 : decode cX10_books 4 = .ok (.aload_n 0, 1) := by decide +kernel
theorem dX10_books_5 : decode cX10_books 5 = .ok (.getfield 14, 3) := by decide +kernel
theorem dX10_books_8 : decode cX10_books 8 = .ok (.aload_n 0, 1) := by decide +kernel
theorem dX10_books_9 : decode cX10_books 9 = .ok (.getfield 21, 3) := by decide +kernel
theorem dX10_books_12 : decode cX10_books 12 = .ok (.invokespecial 94, 3) := by decide +kernel
theorem dX10_books_15 : decode cX10_books 15 = .ok (.astore_n 1, 1) := by decide +kernel
theorem dX10_books_16 : decode cX10_books 16 = .ok (.aload_n 1, 1) := by decide +kernel
theorem dX10_books_17 : decode cX10_books 17 = .ok (.invokevirtual 97, 3) := by decide +kernel
theorem dX10_books_20 : decode cX10_books 20 = .ok (.istore_n 2, 1) := by decide +kernel
theorem dX10_books_21 : decode cX10_books 21 = .ok (.aload_n 0, 1) := by decide +kernel
theorem dX10_books_22 : decode cX10_books 22 = .ok (.aload_n 1, 1) := by decide +kernel
theorem dX10_books_23 : decode cX10_books 23 = .ok (.invokevirtual 100, 3) := by decide +kernel
theorem dX10_books_26 : decode cX10_books 26 = .ok (.putfield 73, 3) := by decide +kernel
theorem dX10_books_29 : decode cX10_books 29 = .ok (.iload_n 2, 1) := by decide +kernel
theorem dX10_books_30 : decode cX10_books 30 = .ok (.ifCond .ne 13, 3) := by decide +kernel
theorem dX10_books_33 : decode cX10_books 33 = .ok (.aload_n 0, 1) := by decide +kernel
theorem dX10_books_34 : decode cX10_books 34 = .ok (.getfield 21, 3) := by decide +kernel
theorem dX10_books_37 : decode cX10_books 37 = .ok (.invokevirtual 103, 3) := by decide +kernel
theorem dX10_books_40 : decode cX10_books 40 = .ok (.goto 10, 3) := by decide +kernel
theorem dX10_books_43 : decode cX10_books 43 = .ok (.aload_n 0, 1) := by decide +kernel
theorem dX10_books_44 : decode cX10_books 44 = .ok (.getfield 21, 3) := by decide +kernel
theorem dX10_books_47 : decode cX10_books 47 = .ok (.invokevirtual 106, 3) := by decide +kernel
theorem dX10_books_50 : decode cX10_books 50 = .ok (.aload_n 0, 1) := by decide +kernel
theorem dX10_books_51 : decode cX10_books 51 = .ok (.getfield 14, 3) := by decide +kernel
theorem dX10_books_54 : decode cX10_books 54 = .ok (.invokevirtual 109, 3) := by decide +kernel
theorem dX10_books_57 : decode cX10_books 57 = .ok (.iload_n 2, 1) := by decide +kernel
theorem dX10_books_58 : decode cX10_books 58 = .ok (.ifCond .ne 13, 3) := by decide +kernel
theorem dX10_books_61 : decode cX10_books 61 = .ok (.aload_n 0, 1) := by decide +kernel
theorem dX10_books_62 : decode cX10_books 62 = .ok (.getfield 21, 3) := by decide +kernel
theorem dX10_books_65 : decode cX10_books 65 = .ok (.invokevirtual 112, 3) := by decide +kernel
theorem dX10_books_68 : decode cX10_books 68 = .ok (.goto 7, 3) := by decide +kernel
theorem dX10_books_71 : decode cX10_books 71 = .ok (.bipush (-10), 2) := by decide +kernel
theorem dX10_books_73 : decode cX10_books 73 = .ok (.iload_n 2, 1) := by decide +kernel
theorem dX10_books_74 : decode cX10_books 74 = .ok (.isub, 1) := by decide +kernel
theorem dX10_books_75 : decode cX10_books 75 = .ok (.ireturn, 1) := by decide +kernel
set_option maxHeartbeats 4000000 in
set_option maxRecDepth 100000 in
theorem kX10_books (l : Launch) (z : Nat) (D : va_G) (cA : Nat → ClassId) (a0 : Nat) (M : Mem) (K : Int32 → Mem → Prop) (h : PX10_books a0 M K) : Met l yX10_books (.code yX10_books cX10_books 3 (some .int) :: gtbl) ({ frames := 6, cells := 1, slots := 8, locals := 129 } : Room) (va_Pc [.ref a0] (xB z D cA M)) (va_Qi K (xWd z D cA) (xA z)) 1 8 (xA z) := by
  refine x_met (by decide +kernel) (Nat.le_of_ble_eq_true rfl) (L0 := [(0, .ref a0)]) rfl ?_
  intro p e s m args below meth c E hr hlk hnm
  have E : xE RX10 cX10_books 3 D cA p s m args c := E
  have hJ50 : ∀ (M : Mem) (j0 : Nat) (j2 : Int32), JX10_books_50 K M j0 j2 → xG p l e ({ frames := 6, cells := 1, slots := 8, locals := 129 } : Room) s m args below meth c (MQ below (va_Qi K (xWd z D cA) (xA z)) args s 1 8 (xA z)) 3 z D cA M (0 + 1) (0 + 8) 50 [(0, .ref j0), (2, .int j2)] [] := by
    intro M j0 j2 h
    refine x_aload_n E dX10_books_50 rfl 0 rfl ?_
    obtain ⟨hT, q16, hv, h⟩ := h
    refine x_get E flX10_14 dX10_books_51 hT hv ?_
    clear hT hv
    refine x_callVv (T := TX1) (N := 2) (t := 2) (As := []) E mlX10_109 inX1_clear seX1_clear rfl ⟨by decide, by decide⟩ (tX1_clear h) (kX1_clear l z D cA q16 M _ h) rfl ⟨rfl, rfl⟩ ⟨Nat.le_of_ble_eq_true rfl, Nat.le_of_ble_eq_true rfl⟩ ⟨(Nat.le_of_ble_eq_true rfl), (Nat.le_of_ble_eq_true rfl)⟩ (Nat.le_of_ble_eq_true rfl) rfl dX10_books_54 (fun M18 h => ?_)
    refine x_iload_n E dX10_books_57 rfl 1 rfl ?_
    refine x_if_ne (tgt := 71) E dX10_books_58 (by decide) (fun c19 => ?_) (fun c19 => ?_)
    · replace h := xbr_f h c19
      clear c19
      refine x_bipush (v := (J (-10))) E dX10_books_71 (by decide) ?_
      refine x_iload_n E dX10_books_73 rfl 1 rfl ?_
      refine x_isub E dX10_books_74 ?_
      refine x_widen (k' := 1) (n' := 8) (Nat.le_of_ble_eq_true rfl) (Nat.le_of_ble_eq_true rfl) ?_
      exact x_iret E hr hlk dX10_books_75 h
    · replace h := xbr_t h c19
      clear c19
      refine x_aload_n E dX10_books_61 rfl 0 rfl ?_
      obtain ⟨hT, q20, hv, h⟩ := h
      refine x_get E flX10_21 dX10_books_62 hT hv ?_
      clear hT hv
      refine x_callVi (T := TX2) (N := 4) (t := 3) (As := []) E mlX10_112 inX2_size seX2_size rfl ⟨by decide, by decide⟩ (tX2_size h) (kX2_size l z D cA q20 M18 _ h) rfl ⟨rfl, rfl⟩ ⟨Nat.le_of_ble_eq_true rfl, Nat.le_of_ble_eq_true rfl⟩ ⟨(Nat.le_of_ble_eq_true rfl), (Nat.le_of_ble_eq_true rfl)⟩ (Nat.le_of_ble_eq_true rfl) rfl dX10_books_65 (x_pure (fun r21 h => ?_))
      refine x_goto (tgt := 75) E dX10_books_68 (by decide) ?_
      refine x_widen (k' := 1) (n' := 8) (Nat.le_of_ble_eq_true rfl) (Nat.le_of_ble_eq_true rfl) ?_
      exact x_iret E hr hlk dX10_books_75 h
  replace h := h.2
  refine x_new (ty := tyX5) E (C := RX5) (T := TX5) (N := 8) (t := 6) rfl ⟨by decide, by decide⟩ uiX5 tyX5_ok (gw 281 (by decide +kernel) rfl) (gw 282 (by decide +kernel) rfl) (gw 13 (by decide +kernel) rfl) (Nat.le_of_ble_eq_true rfl) (Nat.le_of_ble_eq_true rfl) dX10_books_0 (fun q1 M2 eq1 eM2 => ?_)
  replace h := h q1 M2 eq1 eM2
  clear eq1 eM2
  refine x_dup E dX10_books_3 rfl ?_
  refine x_aload_n E dX10_books_4 rfl 0 rfl ?_
  obtain ⟨hT, q3, hv, h⟩ := h
  refine x_get E flX10_14 dX10_books_5 hT hv ?_
  clear hT hv
  refine x_aload_n E dX10_books_8 rfl 0 rfl ?_
  obtain ⟨hT, q4, hv, h⟩ := h
  refine x_get E flX10_21 dX10_books_9 hT hv ?_
  clear hT hv
  refine x_callI (As := [.ref q3, .ref q4]) E mlX10_94 inX5_init rfl (kX5_init l z D cA q1 q3 q4 M2 _ h) rfl ⟨rfl, rfl⟩ ⟨Nat.le_of_ble_eq_true rfl, Nat.le_of_ble_eq_true rfl⟩ ⟨(Nat.le_of_ble_eq_true rfl), (Nat.le_of_ble_eq_true rfl)⟩ (Nat.le_of_ble_eq_true rfl) rfl dX10_books_12 (fun M6 h => ?_)
  refine x_astore_n (L' := [(1, .ref q1), (0, .ref a0)]) E dX10_books_15 rfl (by decide) rfl ?_
  refine x_aload_n E dX10_books_16 rfl 0 rfl ?_
  refine x_callVi (T := TX5) (N := 8) (t := 6) (As := []) E mlX10_97 inX5_parse seX5_parse rfl ⟨by decide, by decide⟩ (tX5_parse h) (kX5_parse l z D cA q1 M6 _ h) rfl ⟨rfl, rfl⟩ ⟨Nat.le_of_ble_eq_true rfl, Nat.le_of_ble_eq_true rfl⟩ ⟨(Nat.le_of_ble_eq_true rfl), (Nat.le_of_ble_eq_true rfl)⟩ (Nat.le_of_ble_eq_true rfl) rfl dX10_books_17 (fun r7 M8 h => ?_)
  refine x_istore_n (L' := [(2, .int r7), (1, .ref q1), (0, .ref a0)]) E dX10_books_20 rfl (by decide) rfl ?_
  refine x_aload_n E dX10_books_21 rfl 2 rfl ?_
  refine x_aload_n E dX10_books_22 rfl 1 rfl ?_
  refine x_callVi (T := TX5) (N := 8) (t := 6) (As := []) E mlX10_100 inX5_faultAt seX5_faultAt rfl ⟨by decide, by decide⟩ (tX5_faultAt h) (kX5_faultAt l z D cA q1 M8 _ h) rfl ⟨rfl, rfl⟩ ⟨Nat.le_of_ble_eq_true rfl, Nat.le_of_ble_eq_true rfl⟩ ⟨(Nat.le_of_ble_eq_true rfl), (Nat.le_of_ble_eq_true rfl)⟩ (Nat.le_of_ble_eq_true rfl) rfl dX10_books_23 (x_pure (fun r9 h => ?_))
  obtain ⟨hT, h⟩ := h
  refine x_put E flX10_73 ⟨tyX10_ok, nmX10, rfl⟩ (by decide +kernel) rfl rfl dX10_books_26 hT (fun M11 eM11 => ?_)
  replace h := h M11 eM11
  clear hT eM11
  refine x_iload_n E dX10_books_29 rfl 0 rfl ?_
  refine x_if_ne (tgt := 43) E dX10_books_30 (by decide) (fun c12 => ?_) (fun c12 => ?_)
  · replace h := xbr_f h c12
    clear c12
    refine x_aload_n E dX10_books_43 rfl 2 rfl ?_
    obtain ⟨hT, q13, hv, h⟩ := h
    refine x_get E flX10_21 dX10_books_44 hT hv ?_
    clear hT hv
    refine x_callVv (T := TX2) (N := 4) (t := 3) (As := []) E mlX10_106 inX2_dropDrafts seX2_dropDrafts rfl ⟨by decide, by decide⟩ (tX2_dropDrafts h) (kX2_dropDrafts l z D cA q13 M11 _ h) rfl ⟨rfl, rfl⟩ ⟨Nat.le_of_ble_eq_true rfl, Nat.le_of_ble_eq_true rfl⟩ ⟨(Nat.le_of_ble_eq_true rfl), (Nat.le_of_ble_eq_true rfl)⟩ (Nat.le_of_ble_eq_true rfl) rfl dX10_books_47 (fun M15 h => ?_)
    refine x_sub (L' := [(0, .ref a0), (2, .int r7)]) [2, 0] rfl ?_
    exact hJ50 M15 a0 r7 h
  · replace h := xbr_t h c12
    clear c12
    refine x_aload_n E dX10_books_33 rfl 2 rfl ?_
    obtain ⟨hT, q23, hv, h⟩ := h
    refine x_get E flX10_21 dX10_books_34 hT hv ?_
    clear hT hv
    refine x_callVv (T := TX2) (N := 4) (t := 3) (As := []) E mlX10_103 inX2_acceptDrafts seX2_acceptDrafts rfl ⟨by decide, by decide⟩ (tX2_acceptDrafts h) (kX2_acceptDrafts l z D cA q23 M11 _ h) rfl ⟨rfl, rfl⟩ ⟨Nat.le_of_ble_eq_true rfl, Nat.le_of_ble_eq_true rfl⟩ ⟨(Nat.le_of_ble_eq_true rfl), (Nat.le_of_ble_eq_true rfl)⟩ (Nat.le_of_ble_eq_true rfl) rfl dX10_books_37 (fun M25 h => ?_)
    refine x_goto (tgt := 50) E dX10_books_40 (by decide) ?_
    refine x_sub (L' := [(0, .ref a0), (2, .int r7)]) [2, 0] rfl ?_
    exact hJ50 M25 a0 r7 h
theorem dX10_fault_0 : decode cX10_fault 0 = .ok (.aload_n 0, 1) := by decide +kernel
theorem dX10_fault_1 : decode cX10_fault 1 = .ok (.getfield 73, 3) := by decide +kernel
theorem dX10_fault_4 : decode cX10_fault 4 = .ok (.ireturn, 1) := by decide +kernel
set_option maxHeartbeats 4000000 in
set_option maxRecDepth 100000 in
theorem kX10_fault (l : Launch) (z : Nat) (D : va_G) (cA : Nat → ClassId) (a0 : Nat) (M : Mem) (K : Int32 → Prop) (h : PX10_fault a0 M K) : Met l yX10_fault (.code yX10_fault cX10_fault 1 (some .int) :: gtbl) ({ frames := 0, cells := 0, slots := 0, locals := 0 } : Room) (va_Pc [.ref a0] (xB z D cA M)) (va_Qi (fun r M1 => M1 = M ∧ K r) (xWd z D cA) (xA z)) 0 0 (xA z) := by
  refine x_met (by decide +kernel) (Nat.le_of_ble_eq_true rfl) (L0 := [(0, .ref a0)]) rfl ?_
  intro p e s m args below meth c E hr hlk hnm
  have E : xE RX10 cX10_fault 1 D cA p s m args c := E
  replace h := h.2
  refine x_aload_n E dX10_fault_0 rfl 0 rfl ?_
  obtain ⟨hT, v1, hv, h⟩ := h
  refine x_get E flX10_73 dX10_fault_1 hT hv ?_
  clear hT hv
  exact x_iret E hr hlk dX10_fault_4 ⟨rfl, h⟩
theorem dX10_book_0 : decode cX10_book 0 = .ok (.aload_n 0, 1) := by decide +kernel
theorem dX10_book_1 : decode cX10_book 1 = .ok (.getfield 21, 3) := by decide +kernel
theorem dX10_book_4 : decode cX10_book 4 = .ok (.iload_n 1, 1) := by decide +kernel
theorem dX10_book_5 : decode cX10_book 5 = .ok (.invokevirtual 113, 3) := by decide +kernel
theorem dX10_book_8 : decode cX10_book 8 = .ok (.ifCond .ne 7, 3) := by decide +kernel
theorem dX10_book_11 : decode cX10_book 11 = .ok (.sipush (-1001), 3) := by decide +kernel
theorem dX10_book_14 : decode cX10_book 14 = .ok (.ireturn, 1) := by decide +kernel
theorem dX10_book_15 : decode cX10_book 15 = .ok (.iload_n 2, 1) := by decide +kernel
theorem dX10_book_16 : decode cX10_book 16 = .ok (.tableswitch 121 0 4 #[36, 48, 60, 72, 81], 36) := by decide +kernel
theorem dX10_book_52 : decode cX10_book 52 = .ok (.aload_n 0, 1) := by decide +kernel
theorem dX10_book_53 : decode cX10_book 53 = .ok (.getfield 21, 3) := by decide +kernel
theorem dX10_book_56 : decode cX10_book 56 = .ok (.iload_n 1, 1) := by decide +kernel
theorem dX10_book_57 : decode cX10_book 57 = .ok (.invokevirtual 117, 3) := by decide +kernel
theorem dX10_book_60 : decode cX10_book 60 = .ok (.getfield 121, 3) := by decide +kernel
theorem dX10_book_63 : decode cX10_book 63 = .ok (.ireturn, 1) := by decide +kernel
theorem dX10_book_64 : decode cX10_book 64 = .ok (.aload_n 0, 1) := by decide +kernel
theorem dX10_book_65 : decode cX10_book 65 = .ok (.getfield 21, 3) := by decide +kernel
theorem dX10_book_68 : decode cX10_book 68 = .ok (.iload_n 1, 1) := by decide +kernel
theorem dX10_book_69 : decode cX10_book 69 = .ok (.invokevirtual 117, 3) := by decide +kernel
theorem dX10_book_72 : decode cX10_book 72 = .ok (.getfield 126, 3) := by decide +kernel
theorem dX10_book_75 : decode cX10_book 75 = .ok (.ireturn, 1) := by decide +kernel
theorem dX10_book_76 : decode cX10_book 76 = .ok (.aload_n 0, 1) := by decide +kernel
theorem dX10_book_77 : decode cX10_book 77 = .ok (.getfield 21, 3) := by decide +kernel
theorem dX10_book_80 : decode cX10_book 80 = .ok (.iload_n 1, 1) := by decide +kernel
theorem dX10_book_81 : decode cX10_book 81 = .ok (.invokevirtual 117, 3) := by decide +kernel
theorem dX10_book_84 : decode cX10_book 84 = .ok (.getfield 129, 3) := by decide +kernel
theorem dX10_book_87 : decode cX10_book 87 = .ok (.ireturn, 1) := by decide +kernel
theorem dX10_book_88 : decode cX10_book 88 = .ok (.aload_n 0, 1) := by decide +kernel
theorem dX10_book_89 : decode cX10_book 89 = .ok (.getfield 35, 3) := by decide +kernel
theorem dX10_book_92 : decode cX10_book 92 = .ok (.iload_n 1, 1) := by decide +kernel
theorem dX10_book_93 : decode cX10_book 93 = .ok (.invokevirtual 132, 3) := by decide +kernel
theorem dX10_book_96 : decode cX10_book 96 = .ok (.ireturn, 1) := by decide +kernel
theorem dX10_book_97 : decode cX10_book 97 = .ok (.aload_n 0, 1) := by decide +kernel
theorem dX10_book_98 : decode cX10_book 98 = .ok (.getfield 35, 3) := by decide +kernel
theorem dX10_book_101 : decode cX10_book 101 = .ok (.iload_n 1, 1) := by decide +kernel
theorem dX10_book_102 : decode cX10_book 102 = .ok (.invokevirtual 136, 3) := by decide +kernel
theorem dX10_book_105 : decode cX10_book 105 = .ok (.ifCond .eq 30, 3) := by decide +kernel
theorem dX10_book_108 : decode cX10_book 108 = .ok (.aload_n 0, 1) := by decide +kernel
theorem dX10_book_109 : decode cX10_book 109 = .ok (.getfield 35, 3) := by decide +kernel
theorem dX10_book_112 : decode cX10_book 112 = .ok (.iload_n 1, 1) := by decide +kernel
theorem dX10_book_113 : decode cX10_book 113 = .ok (.invokevirtual 139, 3) := by decide +kernel
theorem dX10_book_116 : decode cX10_book 116 = .ok (.aload_n 0, 1) := by decide +kernel
theorem dX10_book_117 : decode cX10_book 117 = .ok (.getfield 35, 3) := by decide +kernel
theorem dX10_book_120 : decode cX10_book 120 = .ok (.aload_n 0, 1) := by decide +kernel
theorem dX10_book_121 : decode cX10_book 121 = .ok (.getfield 35, 3) := by decide +kernel
theorem dX10_book_124 : decode cX10_book 124 = .ok (.iload_n 1, 1) := by decide +kernel
theorem dX10_book_125 : decode cX10_book 125 = .ok (.invokevirtual 132, 3) := by decide +kernel
theorem dX10_book_128 : decode cX10_book 128 = .ok (.invokevirtual 142, 3) := by decide +kernel
theorem dX10_book_131 : decode cX10_book 131 = .ok (.isub, 1) := by decide +kernel
theorem dX10_book_132 : decode cX10_book 132 = .ok (.goto 4, 3) := by decide +kernel
theorem dX10_book_135 : decode cX10_book 135 = .ok (.iconst (-1), 1) := by decide +kernel
theorem dX10_book_136 : decode cX10_book 136 = .ok (.ireturn, 1) := by decide +kernel
theorem dX10_book_137 : decode cX10_book 137 = .ok (.sipush (-1002), 3) := by decide +kernel
theorem dX10_book_140 : decode cX10_book 140 = .ok (.ireturn, 1) := by decide +kernel
set_option maxHeartbeats 4000000 in
set_option maxRecDepth 100000 in
theorem kX10_book (l : Launch) (z : Nat) (D : va_G) (cA : Nat → ClassId) (a0 : Nat) (x1 : Int32) (x2 : Int32) (M : Mem) (K : Int32 → Prop) (h : PX10_book a0 x1 x2 M K) : Met l yX10_book (.code yX10_book cX10_book 3 (some .int) :: gtbl) ({ frames := 2, cells := 0, slots := 0, locals := 43 } : Room) (va_Pc [.ref a0, .int x1, .int x2] (xB z D cA M)) (va_Qi (fun r M1 => M1 = M ∧ K r) (xWd z D cA) (xA z)) 0 0 (xA z) := by
  refine x_met (by decide +kernel) (Nat.le_of_ble_eq_true rfl) (L0 := [(0, .ref a0), (1, .int x1), (2, .int x2)]) rfl ?_
  intro p e s m args below meth c E hr hlk hnm
  have E : xE RX10 cX10_book 3 D cA p s m args c := E
  replace h := h.2
  refine x_aload_n E dX10_book_0 rfl 0 rfl ?_
  obtain ⟨hT, q1, hv, h⟩ := h
  refine x_get E flX10_21 dX10_book_1 hT hv ?_
  clear hT hv
  refine x_iload_n E dX10_book_4 rfl 1 rfl ?_
  refine x_callVi (T := TX2) (N := 4) (t := 3) (As := [.int x1]) E mlX10_113 inX2_has seX2_has rfl ⟨by decide, by decide⟩ (tX2_has h) (kX2_has l z D cA q1 x1 M _ h) rfl ⟨rfl, rfl⟩ ⟨Nat.le_of_ble_eq_true rfl, Nat.le_of_ble_eq_true rfl⟩ ⟨(Nat.le_of_ble_eq_true rfl), (Nat.le_of_ble_eq_true rfl)⟩ (Nat.le_of_ble_eq_true rfl) rfl dX10_book_5 (x_pure (fun r2 h => ?_))
  refine x_if_ne (tgt := 15) E dX10_book_8 (by decide) (fun c4 => ?_) (fun c4 => ?_)
  · replace h := xbr_f h c4
    clear c4
    refine x_iload_n E dX10_book_15 rfl 2 rfl ?_
    by_cases c5 : x2 = (J 0)
    · replace h := xbr_t h c5
      refine x_tableIn (off := 36) (tgt := 52) E dX10_book_16 (by rw [c5]; decide) (by rw [c5]; decide) (by rw [c5]; decide) (by decide) ?_
      refine x_aload_n E dX10_book_52 rfl 0 rfl ?_
      obtain ⟨hT, q6, hv, h⟩ := h
      refine x_get E flX10_21 dX10_book_53 hT hv ?_
      clear hT hv
      refine x_iload_n E dX10_book_56 rfl 1 rfl ?_
      refine x_callVr (T := TX2) (N := 4) (t := 3) (As := [.int x1]) E mlX10_117 inX2_of seX2_of rfl ⟨by decide, by decide⟩ (tX2_of h) (kX2_of l z D cA q6 x1 M _ h) rfl ⟨rfl, rfl⟩ ⟨Nat.le_of_ble_eq_true rfl, Nat.le_of_ble_eq_true rfl⟩ ⟨(Nat.le_of_ble_eq_true rfl), (Nat.le_of_ble_eq_true rfl)⟩ (Nat.le_of_ble_eq_true rfl) rfl dX10_book_57 (fun q7 h => ?_)
      obtain ⟨hT, v9, hv, h⟩ := h
      refine x_get E flX10_121 dX10_book_60 hT hv ?_
      clear hT hv
      exact x_iret E hr hlk dX10_book_63 ⟨rfl, h⟩
    replace h := xbr_f h c5
    by_cases c10 : x2 = (J 1)
    · replace h := xbr_t h c10
      refine x_tableIn (off := 48) (tgt := 64) E dX10_book_16 (by rw [c10]; decide) (by rw [c10]; decide) (by rw [c10]; decide) (by decide) ?_
      refine x_aload_n E dX10_book_64 rfl 0 rfl ?_
      obtain ⟨hT, q11, hv, h⟩ := h
      refine x_get E flX10_21 dX10_book_65 hT hv ?_
      clear hT hv
      refine x_iload_n E dX10_book_68 rfl 1 rfl ?_
      refine x_callVr (T := TX2) (N := 4) (t := 3) (As := [.int x1]) E mlX10_117 inX2_of seX2_of rfl ⟨by decide, by decide⟩ (tX2_of h) (kX2_of l z D cA q11 x1 M _ h) rfl ⟨rfl, rfl⟩ ⟨Nat.le_of_ble_eq_true rfl, Nat.le_of_ble_eq_true rfl⟩ ⟨(Nat.le_of_ble_eq_true rfl), (Nat.le_of_ble_eq_true rfl)⟩ (Nat.le_of_ble_eq_true rfl) rfl dX10_book_69 (fun q12 h => ?_)
      obtain ⟨hT, v14, hv, h⟩ := h
      refine x_get E flX10_126 dX10_book_72 hT hv ?_
      clear hT hv
      exact x_iret E hr hlk dX10_book_75 ⟨rfl, h⟩
    replace h := xbr_f h c10
    by_cases c15 : x2 = (J 2)
    · replace h := xbr_t h c15
      refine x_tableIn (off := 60) (tgt := 76) E dX10_book_16 (by rw [c15]; decide) (by rw [c15]; decide) (by rw [c15]; decide) (by decide) ?_
      refine x_aload_n E dX10_book_76 rfl 0 rfl ?_
      obtain ⟨hT, q16, hv, h⟩ := h
      refine x_get E flX10_21 dX10_book_77 hT hv ?_
      clear hT hv
      refine x_iload_n E dX10_book_80 rfl 1 rfl ?_
      refine x_callVr (T := TX2) (N := 4) (t := 3) (As := [.int x1]) E mlX10_117 inX2_of seX2_of rfl ⟨by decide, by decide⟩ (tX2_of h) (kX2_of l z D cA q16 x1 M _ h) rfl ⟨rfl, rfl⟩ ⟨Nat.le_of_ble_eq_true rfl, Nat.le_of_ble_eq_true rfl⟩ ⟨(Nat.le_of_ble_eq_true rfl), (Nat.le_of_ble_eq_true rfl)⟩ (Nat.le_of_ble_eq_true rfl) rfl dX10_book_81 (fun q17 h => ?_)
      obtain ⟨hT, v19, hv, h⟩ := h
      refine x_get E flX10_129 dX10_book_84 hT hv ?_
      clear hT hv
      exact x_iret E hr hlk dX10_book_87 ⟨rfl, h⟩
    replace h := xbr_f h c15
    by_cases c20 : x2 = (J 3)
    · replace h := xbr_t h c20
      refine x_tableIn (off := 72) (tgt := 88) E dX10_book_16 (by rw [c20]; decide) (by rw [c20]; decide) (by rw [c20]; decide) (by decide) ?_
      refine x_aload_n E dX10_book_88 rfl 0 rfl ?_
      obtain ⟨hT, q21, hv, h⟩ := h
      refine x_get E flX10_35 dX10_book_89 hT hv ?_
      clear hT hv
      refine x_iload_n E dX10_book_92 rfl 1 rfl ?_
      refine x_callVi (T := TX6) (N := 3) (t := 7) (As := [.int x1]) E mlX10_132 inX6_shelfOf seX6_shelfOf rfl ⟨by decide, by decide⟩ (tX6_shelfOf h) (kX6_shelfOf l z D cA q21 x1 M _ h) rfl ⟨rfl, rfl⟩ ⟨Nat.le_of_ble_eq_true rfl, Nat.le_of_ble_eq_true rfl⟩ ⟨(Nat.le_of_ble_eq_true rfl), (Nat.le_of_ble_eq_true rfl)⟩ (Nat.le_of_ble_eq_true rfl) rfl dX10_book_93 (x_pure (fun r22 h => ?_))
      exact x_iret E hr hlk dX10_book_96 ⟨rfl, h⟩
    replace h := xbr_f h c20
    by_cases c24 : x2 = (J 4)
    · replace h := xbr_t h c24
      refine x_tableIn (off := 81) (tgt := 97) E dX10_book_16 (by rw [c24]; decide) (by rw [c24]; decide) (by rw [c24]; decide) (by decide) ?_
      refine x_aload_n E dX10_book_97 rfl 0 rfl ?_
      obtain ⟨hT, q25, hv, h⟩ := h
      refine x_get E flX10_35 dX10_book_98 hT hv ?_
      clear hT hv
      refine x_iload_n E dX10_book_101 rfl 1 rfl ?_
      refine x_callVi (T := TX6) (N := 3) (t := 7) (As := [.int x1]) E mlX10_136 inX6_stands seX6_stands rfl ⟨by decide, by decide⟩ (tX6_stands h) (kX6_stands l z D cA q25 x1 M _ h) rfl ⟨rfl, rfl⟩ ⟨Nat.le_of_ble_eq_true rfl, Nat.le_of_ble_eq_true rfl⟩ ⟨(Nat.le_of_ble_eq_true rfl), (Nat.le_of_ble_eq_true rfl)⟩ (Nat.le_of_ble_eq_true rfl) rfl dX10_book_102 (x_pure (fun r26 h => ?_))
      refine x_if_eq (tgt := 135) E dX10_book_105 (by decide) (fun c28 => ?_) (fun c28 => ?_)
      · replace h := xbr_t h c28
        clear c28
        refine x_iconst (v := (J (-1))) E dX10_book_135 (by decide) ?_
        exact x_iret E hr hlk dX10_book_136 ⟨rfl, h⟩
      · replace h := xbr_f h c28
        clear c28
        refine x_aload_n E dX10_book_108 rfl 0 rfl ?_
        obtain ⟨hT, q29, hv, h⟩ := h
        refine x_get E flX10_35 dX10_book_109 hT hv ?_
        clear hT hv
        refine x_iload_n E dX10_book_112 rfl 1 rfl ?_
        refine x_callVi (T := TX6) (N := 3) (t := 7) (As := [.int x1]) E mlX10_139 inX6_indexOf seX6_indexOf rfl ⟨by decide, by decide⟩ (tX6_indexOf h) (kX6_indexOf l z D cA q29 x1 M _ h) rfl ⟨rfl, rfl⟩ ⟨Nat.le_of_ble_eq_true rfl, Nat.le_of_ble_eq_true rfl⟩ ⟨(Nat.le_of_ble_eq_true rfl), (Nat.le_of_ble_eq_true rfl)⟩ (Nat.le_of_ble_eq_true rfl) rfl dX10_book_113 (x_pure (fun r30 h => ?_))
        refine x_aload_n E dX10_book_116 rfl 0 rfl ?_
        obtain ⟨hT, q32, hv, h⟩ := h
        refine x_get E flX10_35 dX10_book_117 hT hv ?_
        clear hT hv
        refine x_aload_n E dX10_book_120 rfl 0 rfl ?_
        obtain ⟨hT, q33, hv, h⟩ := h
        refine x_get E flX10_35 dX10_book_121 hT hv ?_
        clear hT hv
        refine x_iload_n E dX10_book_124 rfl 1 rfl ?_
        refine x_callVi (T := TX6) (N := 3) (t := 7) (As := [.int x1]) E mlX10_132 inX6_shelfOf seX6_shelfOf rfl ⟨by decide, by decide⟩ (tX6_shelfOf h) (kX6_shelfOf l z D cA q33 x1 M _ h) rfl ⟨rfl, rfl⟩ ⟨Nat.le_of_ble_eq_true rfl, Nat.le_of_ble_eq_true rfl⟩ ⟨(Nat.le_of_ble_eq_true rfl), (Nat.le_of_ble_eq_true rfl)⟩ (Nat.le_of_ble_eq_true rfl) rfl dX10_book_125 (x_pure (fun r34 h => ?_))
        refine x_callVi (T := TX6) (N := 3) (t := 7) (As := [.int r34]) E mlX10_142 inX6_start seX6_start rfl ⟨by decide, by decide⟩ (tX6_start h) (kX6_start l z D cA q32 r34 M _ h) rfl ⟨rfl, rfl⟩ ⟨Nat.le_of_ble_eq_true rfl, Nat.le_of_ble_eq_true rfl⟩ ⟨(Nat.le_of_ble_eq_true rfl), (Nat.le_of_ble_eq_true rfl)⟩ (Nat.le_of_ble_eq_true rfl) rfl dX10_book_128 (x_pure (fun r36 h => ?_))
        refine x_isub E dX10_book_131 ?_
        refine x_goto (tgt := 136) E dX10_book_132 (by decide) ?_
        exact x_iret E hr hlk dX10_book_136 ⟨rfl, h⟩
    replace h := xbr_f h c24
    have nc5 := lv_neT c5 (a := 0) (by decide)
    have nc10 := lv_neT c10 (a := 1) (by decide)
    have nc15 := lv_neT c15 (a := 2) (by decide)
    have nc20 := lv_neT c20 (a := 3) (by decide)
    have nc24 := lv_neT c24 (a := 4) (by decide)
    refine x_tableOut (tgt := 137) E dX10_book_16 (by omega) (by decide) ?_
    clear c5 c10 c15 c20 c24
    clear nc5 nc10 nc15 nc20 nc24
    refine x_sipush (v := (J (-1002))) E dX10_book_137 (by decide) ?_
    exact x_iret E hr hlk dX10_book_140 ⟨rfl, h⟩
  · replace h := xbr_t h c4
    clear c4
    refine x_sipush (v := (J (-1001))) E dX10_book_11 (by decide) ?_
    exact x_iret E hr hlk dX10_book_14 ⟨rfl, h⟩
theorem dX10_mark_0 : decode cX10_mark 0 = .ok (.aload_n 0, 1) := by decide +kernel
theorem dX10_mark_1 : decode cX10_mark 1 = .ok (.getfield 21, 3) := by decide +kernel
theorem dX10_mark_4 : decode cX10_mark 4 = .ok (.iload_n 1, 1) := by decide +kernel
theorem dX10_mark_5 : decode cX10_mark 5 = .ok (.invokevirtual 113, 3) := by decide +kernel
theorem dX10_mark_8 : decode cX10_mark 8 = .ok (.ifCond .ne 7, 3) := by decide +kernel
theorem dX10_mark_11 : decode cX10_mark 11 = .ok (.sipush (-1001), 3) := by decide +kernel
theorem dX10_mark_14 : decode cX10_mark 14 = .ok (.ireturn, 1) := by decide +kernel
theorem dX10_mark_15 : decode cX10_mark 15 = .ok (.aload_n 0, 1) := by decide +kernel
theorem dX10_mark_16 : decode cX10_mark 16 = .ok (.getfield 21, 3) := by decide +kernel
theorem dX10_mark_19 : decode cX10_mark 19 = .ok (.iload_n 1, 1) := by decide +kernel
theorem dX10_mark_20 : decode cX10_mark 20 = .ok (.invokevirtual 117, 3) := by decide +kernel
theorem dX10_mark_23 : decode cX10_mark 23 = .ok (.getfield 145, 3) := by decide +kernel
theorem dX10_mark_26 : decode cX10_mark 26 = .ok (.astore_n 3, 1) := by decide +kernel
theorem dX10_mark_27 : decode cX10_mark 27 = .ok (.iload_n 2, 1) := by decide +kernel
theorem dX10_mark_28 : decode cX10_mark 28 = .ok (.iconst (-1), 1) := by decide +kernel
theorem dX10_mark_29 : decode cX10_mark 29 = .ok (.if_icmp .ne 10, 3) := by decide +kernel
theorem dX10_mark_32 : decode cX10_mark 32 = .ok (.aload_n 3, 1) := by decide +kernel
theorem dX10_mark_33 : decode cX10_mark 33 = .ok (.invokevirtual 83, 3) := by decide +kernel
theorem dX10_mark_36 : decode cX10_mark 36 = .ok (.goto 8, 3) := by decide +kernel
theorem dX10_mark_39 : decode cX10_mark 39 = .ok (.aload_n 3, 1) := by decide +kernel
theorem dX10_mark_40 : decode cX10_mark 40 = .ok (.iload_n 2, 1) := by decide +kernel
theorem dX10_mark_41 : decode cX10_mark 41 = .ok (.invokevirtual 148, 3) := by decide +kernel
theorem dX10_mark_44 : decode cX10_mark 44 = .ok (.ireturn, 1) := by decide +kernel
set_option maxHeartbeats 4000000 in
set_option maxRecDepth 100000 in
theorem kX10_mark (l : Launch) (z : Nat) (D : va_G) (cA : Nat → ClassId) (a0 : Nat) (x1 : Int32) (x2 : Int32) (M : Mem) (K : Int32 → Prop) (h : PX10_mark a0 x1 x2 M K) : Met l yX10_mark (.code yX10_mark cX10_mark 4 (some .int) :: gtbl) ({ frames := 1, cells := 0, slots := 0, locals := 22 } : Room) (va_Pc [.ref a0, .int x1, .int x2] (xB z D cA M)) (va_Qi (fun r M1 => M1 = M ∧ K r) (xWd z D cA) (xA z)) 0 0 (xA z) := by
  refine x_met (by decide +kernel) (Nat.le_of_ble_eq_true rfl) (L0 := [(0, .ref a0), (1, .int x1), (2, .int x2)]) rfl ?_
  intro p e s m args below meth c E hr hlk hnm
  have E : xE RX10 cX10_mark 4 D cA p s m args c := E
  replace h := h.2
  refine x_aload_n E dX10_mark_0 rfl 0 rfl ?_
  obtain ⟨hT, q1, hv, h⟩ := h
  refine x_get E flX10_21 dX10_mark_1 hT hv ?_
  clear hT hv
  refine x_iload_n E dX10_mark_4 rfl 1 rfl ?_
  refine x_callVi (T := TX2) (N := 4) (t := 3) (As := [.int x1]) E mlX10_113 inX2_has seX2_has rfl ⟨by decide, by decide⟩ (tX2_has h) (kX2_has l z D cA q1 x1 M _ h) rfl ⟨rfl, rfl⟩ ⟨Nat.le_of_ble_eq_true rfl, Nat.le_of_ble_eq_true rfl⟩ ⟨(Nat.le_of_ble_eq_true rfl), (Nat.le_of_ble_eq_true rfl)⟩ (Nat.le_of_ble_eq_true rfl) rfl dX10_mark_5 (x_pure (fun r2 h => ?_))
  refine x_if_ne (tgt := 15) E dX10_mark_8 (by decide) (fun c4 => ?_) (fun c4 => ?_)
  · replace h := xbr_f h c4
    clear c4
    refine x_aload_n E dX10_mark_15 rfl 0 rfl ?_
    obtain ⟨hT, q5, hv, h⟩ := h
    refine x_get E flX10_21 dX10_mark_16 hT hv ?_
    clear hT hv
    refine x_iload_n E dX10_mark_19 rfl 1 rfl ?_
    refine x_callVr (T := TX2) (N := 4) (t := 3) (As := [.int x1]) E mlX10_117 inX2_of seX2_of rfl ⟨by decide, by decide⟩ (tX2_of h) (kX2_of l z D cA q5 x1 M _ h) rfl ⟨rfl, rfl⟩ ⟨Nat.le_of_ble_eq_true rfl, Nat.le_of_ble_eq_true rfl⟩ ⟨(Nat.le_of_ble_eq_true rfl), (Nat.le_of_ble_eq_true rfl)⟩ (Nat.le_of_ble_eq_true rfl) rfl dX10_mark_20 (fun q6 h => ?_)
    obtain ⟨hT, q8, hv, h⟩ := h
    refine x_get E flX10_145 dX10_mark_23 hT hv ?_
    clear hT hv
    refine x_astore_n (L' := [(3, .ref q8), (0, .ref a0), (1, .int x1), (2, .int x2)]) E dX10_mark_26 rfl (by decide) rfl ?_
    refine x_iload_n E dX10_mark_27 rfl 3 rfl ?_
    refine x_iconst (v := (J (-1))) E dX10_mark_28 (by decide) ?_
    refine x_icmp_ne (tgt := 39) E dX10_mark_29 (by decide) (fun c9 => ?_) (fun c9 => ?_)
    · replace h := xbr_f h c9
      clear c9
      refine x_aload_n E dX10_mark_39 rfl 0 rfl ?_
      refine x_iload_n E dX10_mark_40 rfl 3 rfl ?_
      refine x_callVi (T := TX1) (N := 2) (t := 2) (As := [.int x2]) E mlX10_148 inX1_get seX1_get rfl ⟨by decide, by decide⟩ (tX1_get h) (kX1_get l z D cA q8 x2 M _ h) rfl ⟨rfl, rfl⟩ ⟨Nat.le_of_ble_eq_true rfl, Nat.le_of_ble_eq_true rfl⟩ ⟨(Nat.le_of_ble_eq_true rfl), (Nat.le_of_ble_eq_true rfl)⟩ (Nat.le_of_ble_eq_true rfl) rfl dX10_mark_41 (x_pure (fun r10 h => ?_))
      exact x_iret E hr hlk dX10_mark_44 ⟨rfl, h⟩
    · replace h := xbr_t h c9
      clear c9
      refine x_aload_n E dX10_mark_32 rfl 0 rfl ?_
      refine x_callVi (T := TX1) (N := 2) (t := 2) (As := []) E mlX10_83 inX1_size seX1_size rfl ⟨by decide, by decide⟩ (tX1_size h) (kX1_size l z D cA q8 M _ h) rfl ⟨rfl, rfl⟩ ⟨Nat.le_of_ble_eq_true rfl, Nat.le_of_ble_eq_true rfl⟩ ⟨(Nat.le_of_ble_eq_true rfl), (Nat.le_of_ble_eq_true rfl)⟩ (Nat.le_of_ble_eq_true rfl) rfl dX10_mark_33 (x_pure (fun r12 h => ?_))
      refine x_goto (tgt := 44) E dX10_mark_36 (by decide) ?_
      exact x_iret E hr hlk dX10_mark_44 ⟨rfl, h⟩
  · replace h := xbr_t h c4
    clear c4
    refine x_sipush (v := (J (-1001))) E dX10_mark_11 (by decide) ?_
    exact x_iret E hr hlk dX10_mark_14 ⟨rfl, h⟩
theorem dX10_isReading_0 : decode cX10_isReading 0 = .ok (.iload_n 0, 1) := by decide +kernel
theorem dX10_isReading_1 : decode cX10_isReading 1 = .ok (.ifCond .lt 12, 3) := by decide +kernel
theorem dX10_isReading_4 : decode cX10_isReading 4 = .ok (.iload_n 0, 1) := by decide +kernel
theorem dX10_isReading_5 : decode cX10_isReading 5 = .ok (.iconst 5, 1) := by decide +kernel
theorem dX10_isReading_6 : decode cX10_isReading 6 = .ok (.if_icmp .ge 7, 3) := by decide +kernel
theorem dX10_isReading_9 : decode cX10_isReading 9 = .ok (.iconst 1, 1) := by decide +kernel
theorem dX10_isReading_10 : decode cX10_isReading 10 = .ok (.goto 4, 3) := by decide +kernel
theorem dX10_isReading_13 : decode cX10_isReading 13 = .ok (.iconst 0, 1) := by decide +kernel
theorem dX10_isReading_14 : decode cX10_isReading 14 = .ok (.ireturn, 1) := by decide +kernel
set_option maxHeartbeats 4000000 in
set_option maxRecDepth 100000 in
theorem kX10_isReading (l : Launch) (z : Nat) (D : va_G) (cA : Nat → ClassId) (x0 : Int32) (M : Mem) (K : Int32 → Prop) (h : PX10_isReading x0 M K) : Met l yX10_isReading (.code yX10_isReading cX10_isReading 1 (some .boolean) :: gtbl) ({ frames := 0, cells := 0, slots := 0, locals := 0 } : Room) (va_Pc [.int x0] (xB z D cA M)) (va_Qi (fun r M1 => M1 = M ∧ K r) (xWd z D cA) (xA z)) 0 0 (xA z) := by
  refine x_met (by decide +kernel) (Nat.le_of_ble_eq_true rfl) (L0 := [(0, .int x0)]) rfl ?_
  intro p e s m args below meth c E hr hlk hnm
  have E : xE RX10 cX10_isReading 1 D cA p s m args c := E
  refine x_iload_n E dX10_isReading_0 rfl 0 rfl ?_
  refine x_if_lt (tgt := 13) E dX10_isReading_1 (by decide) (fun c1 => ?_) (fun c1 => ?_)
  · replace h := xbr_t h c1
    clear c1
    refine x_iconst (v := (J 0)) E dX10_isReading_13 (by decide) ?_
    exact x_zret E hr hlk dX10_isReading_14 h.1 ⟨rfl, h.2⟩
  · replace h := xbr_f h c1
    clear c1
    refine x_iload_n E dX10_isReading_4 rfl 0 rfl ?_
    refine x_iconst (v := (J 5)) E dX10_isReading_5 (by decide) ?_
    refine x_icmp_ge (tgt := 13) E dX10_isReading_6 (by decide) (fun c2 => ?_) (fun c2 => ?_)
    · replace h := xbr_t h c2
      clear c2
      refine x_iconst (v := (J 0)) E dX10_isReading_13 (by decide) ?_
      exact x_zret E hr hlk dX10_isReading_14 h.1 ⟨rfl, h.2⟩
    · replace h := xbr_f h c2
      clear c2
      refine x_iconst (v := (J 1)) E dX10_isReading_9 (by decide) ?_
      refine x_goto (tgt := 14) E dX10_isReading_10 (by decide) ?_
      exact x_zret E hr hlk dX10_isReading_14 h.1 ⟨rfl, h.2⟩
theorem dX10_ahead_0 : decode cX10_ahead 0 = .ok (.aload_n 0, 1) := by decide +kernel
theorem dX10_ahead_1 : decode cX10_ahead 1 = .ok (.getfield 21, 3) := by decide +kernel
theorem dX10_ahead_4 : decode cX10_ahead 4 = .ok (.iload_n 1, 1) := by decide +kernel
theorem dX10_ahead_5 : decode cX10_ahead 5 = .ok (.invokevirtual 113, 3) := by decide +kernel
theorem dX10_ahead_8 : decode cX10_ahead 8 = .ok (.ifCond .eq 21, 3) := by decide +kernel
theorem dX10_ahead_11 : decode cX10_ahead 11 = .ok (.aload_n 0, 1) := by decide +kernel
theorem dX10_ahead_12 : decode cX10_ahead 12 = .ok (.getfield 21, 3) := by decide +kernel
theorem dX10_ahead_15 : decode cX10_ahead 15 = .ok (.iload_n 2, 1) := by decide +kernel
theorem dX10_ahead_16 : decode cX10_ahead 16 = .ok (.invokevirtual 113, 3) := by decide +kernel
theorem dX10_ahead_19 : decode cX10_ahead 19 = .ok (.ifCond .eq 10, 3) := by decide +kernel
theorem dX10_ahead_22 : decode cX10_ahead 22 = .ok (.iload_n 3, 1) := by decide +kernel
theorem dX10_ahead_23 : decode cX10_ahead 23 = .ok (.invokestatic 151, 3) := by decide +kernel
theorem dX10_ahead_26 : decode cX10_ahead 26 = .ok (.ifCond .ne 7, 3) := by decide +kernel
theorem dX10_ahead_29 : decode cX10_ahead 29 = .ok (.sipush (-1001), 3) := by decide +kernel
theorem dX10_ahead_32 : decode cX10_ahead 32 = .ok (.ireturn, 1) := by decide +kernel
theorem dX10_ahead_33 : decode cX10_ahead 33 = .ok (.aload_n 0, 1) := by decide +kernel
theorem dX10_ahead_34 : decode cX10_ahead 34 = .ok (.getfield 21, 3) := by decide +kernel
theorem dX10_ahead_37 : decode cX10_ahead 37 = .ok (.iload_n 1, 1) := by decide +kernel
theorem dX10_ahead_38 : decode cX10_ahead 38 = .ok (.iload_n 2, 1) := by decide +kernel
theorem dX10_ahead_39 : decode cX10_ahead 39 = .ok (.iload_n 3, 1) := by decide +kernel
theorem dX10_ahead_40 : decode cX10_ahead 40 = .ok (.invokevirtual 154, 3) := by decide +kernel
theorem dX10_ahead_43 : decode cX10_ahead 43 = .ok (.ifCond .eq 7, 3) := by decide +kernel
theorem dX10_ahead_46 : decode cX10_ahead 46 = .ok (.iconst 1, 1) := by decide +kernel
theorem dX10_ahead_47 : decode cX10_ahead 47 = .ok (.goto 4, 3) := by decide +kernel
theorem dX10_ahead_50 : decode cX10_ahead 50 = .ok (.iconst 0, 1) := by decide +kernel
theorem dX10_ahead_51 : decode cX10_ahead 51 = .ok (.ireturn, 1) := by decide +kernel
set_option maxHeartbeats 4000000 in
set_option maxRecDepth 100000 in
theorem kX10_ahead (l : Launch) (z : Nat) (D : va_G) (cA : Nat → ClassId) (a0 : Nat) (x1 : Int32) (x2 : Int32) (x3 : Int32) (M : Mem) (K : Int32 → Prop) (h : PX10_ahead a0 x1 x2 x3 M K) : Met l yX10_ahead (.code yX10_ahead cX10_ahead 4 (some .int) :: gtbl) ({ frames := 3, cells := 0, slots := 0, locals := 71 } : Room) (va_Pc [.ref a0, .int x1, .int x2, .int x3] (xB z D cA M)) (va_Qi (fun r M1 => M1 = M ∧ K r) (xWd z D cA) (xA z)) 0 0 (xA z) := by
  refine x_met (by decide +kernel) (Nat.le_of_ble_eq_true rfl) (L0 := [(0, .ref a0), (1, .int x1), (2, .int x2), (3, .int x3)]) rfl ?_
  intro p e s m args below meth c E hr hlk hnm
  have E : xE RX10 cX10_ahead 4 D cA p s m args c := E
  replace h := h.2
  refine x_aload_n E dX10_ahead_0 rfl 0 rfl ?_
  obtain ⟨hT, q1, hv, h⟩ := h
  refine x_get E flX10_21 dX10_ahead_1 hT hv ?_
  clear hT hv
  refine x_iload_n E dX10_ahead_4 rfl 1 rfl ?_
  refine x_callVi (T := TX2) (N := 4) (t := 3) (As := [.int x1]) E mlX10_113 inX2_has seX2_has rfl ⟨by decide, by decide⟩ (tX2_has h) (kX2_has l z D cA q1 x1 M _ h) rfl ⟨rfl, rfl⟩ ⟨Nat.le_of_ble_eq_true rfl, Nat.le_of_ble_eq_true rfl⟩ ⟨(Nat.le_of_ble_eq_true rfl), (Nat.le_of_ble_eq_true rfl)⟩ (Nat.le_of_ble_eq_true rfl) rfl dX10_ahead_5 (x_pure (fun r2 h => ?_))
  refine x_if_eq (tgt := 29) E dX10_ahead_8 (by decide) (fun c4 => ?_) (fun c4 => ?_)
  · replace h := xbr_t h c4
    clear c4
    refine x_sipush (v := (J (-1001))) E dX10_ahead_29 (by decide) ?_
    exact x_iret E hr hlk dX10_ahead_32 ⟨rfl, h⟩
  · replace h := xbr_f h c4
    clear c4
    refine x_aload_n E dX10_ahead_11 rfl 0 rfl ?_
    obtain ⟨hT, q5, hv, h⟩ := h
    refine x_get E flX10_21 dX10_ahead_12 hT hv ?_
    clear hT hv
    refine x_iload_n E dX10_ahead_15 rfl 2 rfl ?_
    refine x_callVi (T := TX2) (N := 4) (t := 3) (As := [.int x2]) E mlX10_113 inX2_has seX2_has rfl ⟨by decide, by decide⟩ (tX2_has h) (kX2_has l z D cA q5 x2 M _ h) rfl ⟨rfl, rfl⟩ ⟨Nat.le_of_ble_eq_true rfl, Nat.le_of_ble_eq_true rfl⟩ ⟨(Nat.le_of_ble_eq_true rfl), (Nat.le_of_ble_eq_true rfl)⟩ (Nat.le_of_ble_eq_true rfl) rfl dX10_ahead_16 (x_pure (fun r6 h => ?_))
    refine x_if_eq (tgt := 29) E dX10_ahead_19 (by decide) (fun c8 => ?_) (fun c8 => ?_)
    · replace h := xbr_t h c8
      clear c8
      refine x_sipush (v := (J (-1001))) E dX10_ahead_29 (by decide) ?_
      exact x_iret E hr hlk dX10_ahead_32 ⟨rfl, h⟩
    · replace h := xbr_f h c8
      clear c8
      refine x_iload_n E dX10_ahead_22 rfl 3 rfl ?_
      refine x_callSi (As := [.int x3]) E mlX10_151 rfl stX10_isReading (kX10_isReading l z D cA x3 M _ h) rfl ⟨rfl, rfl⟩ ⟨Nat.le_of_ble_eq_true rfl, Nat.le_of_ble_eq_true rfl⟩ ⟨(Nat.le_of_ble_eq_true rfl), (Nat.le_of_ble_eq_true rfl)⟩ (Nat.le_of_ble_eq_true rfl) rfl dX10_ahead_23 (x_pure (fun r9 h => ?_))
      refine x_if_ne (tgt := 33) E dX10_ahead_26 (by decide) (fun c11 => ?_) (fun c11 => ?_)
      · replace h := xbr_f h c11
        clear c11
        refine x_aload_n E dX10_ahead_33 rfl 0 rfl ?_
        obtain ⟨hT, q12, hv, h⟩ := h
        refine x_get E flX10_21 dX10_ahead_34 hT hv ?_
        clear hT hv
        refine x_iload_n E dX10_ahead_37 rfl 1 rfl ?_
        refine x_iload_n E dX10_ahead_38 rfl 2 rfl ?_
        refine x_iload_n E dX10_ahead_39 rfl 3 rfl ?_
        refine x_callVi (T := TX2) (N := 4) (t := 3) (As := [.int x1, .int x2, .int x3]) E mlX10_154 inX2_isAhead seX2_isAhead rfl ⟨by decide, by decide⟩ (tX2_isAhead h) (kX2_isAhead l z D cA q12 x1 x2 x3 M _ h) rfl ⟨rfl, rfl⟩ ⟨Nat.le_of_ble_eq_true rfl, Nat.le_of_ble_eq_true rfl⟩ ⟨(Nat.le_of_ble_eq_true rfl), (Nat.le_of_ble_eq_true rfl)⟩ (Nat.le_of_ble_eq_true rfl) rfl dX10_ahead_40 (x_pure (fun r13 h => ?_))
        refine x_if_eq (tgt := 50) E dX10_ahead_43 (by decide) (fun c15 => ?_) (fun c15 => ?_)
        · replace h := xbr_t h c15
          clear c15
          refine x_iconst (v := (J 0)) E dX10_ahead_50 (by decide) ?_
          exact x_iret E hr hlk dX10_ahead_51 ⟨rfl, h⟩
        · replace h := xbr_f h c15
          clear c15
          refine x_iconst (v := (J 1)) E dX10_ahead_46 (by decide) ?_
          refine x_goto (tgt := 51) E dX10_ahead_47 (by decide) ?_
          exact x_iret E hr hlk dX10_ahead_51 ⟨rfl, h⟩
      · replace h := xbr_t h c11
        clear c11
        refine x_sipush (v := (J (-1001))) E dX10_ahead_29 (by decide) ?_
        exact x_iret E hr hlk dX10_ahead_32 ⟨rfl, h⟩
theorem dX10_order_0 : decode cX10_order 0 = .ok (.iload_n 1, 1) := by decide +kernel
theorem dX10_order_1 : decode cX10_order 1 = .ok (.invokestatic 151, 3) := by decide +kernel
theorem dX10_order_4 : decode cX10_order 4 = .ok (.ifCond .ne 7, 3) := by decide +kernel
theorem dX10_order_7 : decode cX10_order 7 = .ok (.sipush (-1001), 3) := by decide +kernel
theorem dX10_order_10 : decode cX10_order 10 = .ok (.ireturn, 1) := by decide +kernel
theorem dX10_order_11 : decode cX10_order 11 = .ok (.aload_n 0, 1) := by decide +kernel
theorem dX10_order_12 : decode cX10_order 12 = .ok (.getfield 39, 3) := by decide +kernel
theorem dX10_order_15 : decode cX10_order 15 = .ok (.invokevirtual 158, 3) := by decide +kernel
theorem dX10_order_18 : decode cX10_order 18 = .ok (.iconst 0, 1) := by decide +kernel
theorem dX10_order_19 : decode cX10_order 19 = .ok (.istore_n 3, 1) := by decide +kernel
theorem dX10_order_20 : decode cX10_order 20 = .ok (.iload_n 3, 1) := by decide +kernel
theorem dX10_order_21 : decode cX10_order 21 = .ok (.aload_n 0, 1) := by decide +kernel
theorem dX10_order_22 : decode cX10_order 22 = .ok (.getfield 21, 3) := by decide +kernel
theorem dX10_order_25 : decode cX10_order 25 = .ok (.invokevirtual 112, 3) := by decide +kernel
theorem dX10_order_28 : decode cX10_order 28 = .ok (.if_icmp .ge 31, 3) := by decide +kernel
theorem dX10_order_31 : decode cX10_order 31 = .ok (.aload_n 0, 1) := by decide +kernel
theorem dX10_order_32 : decode cX10_order 32 = .ok (.getfield 39, 3) := by decide +kernel
theorem dX10_order_35 : decode cX10_order 35 = .ok (.aload_n 0, 1) := by decide +kernel
theorem dX10_order_36 : decode cX10_order 36 = .ok (.getfield 39, 3) := by decide +kernel
theorem dX10_order_39 : decode cX10_order 39 = .ok (.aload_n 0, 1) := by decide +kernel
theorem dX10_order_40 : decode cX10_order 40 = .ok (.getfield 21, 3) := by decide +kernel
theorem dX10_order_43 : decode cX10_order 43 = .ok (.iload_n 3, 1) := by decide +kernel
theorem dX10_order_44 : decode cX10_order 44 = .ok (.iload_n 1, 1) := by decide +kernel
theorem dX10_order_45 : decode cX10_order 45 = .ok (.invokevirtual 159, 3) := by decide +kernel
theorem dX10_order_48 : decode cX10_order 48 = .ok (.iload_n 3, 1) := by decide +kernel
theorem dX10_order_49 : decode cX10_order 49 = .ok (.iconst 0, 1) := by decide +kernel
theorem dX10_order_50 : decode cX10_order 50 = .ok (.invokevirtual 163, 3) := by decide +kernel
theorem dX10_order_53 : decode cX10_order 53 = .ok (.iinc 3 1, 3) := by decide +kernel
theorem dX10_order_56 : decode cX10_order 56 = .ok (.goto (-36), 3) := by decide +kernel
theorem dX10_order_59 : decode cX10_order 59 = .ok (.aload_n 0, 1) := by decide +kernel
theorem dX10_order_60 : decode cX10_order 60 = .ok (.getfield 39, 3) := by decide +kernel
theorem dX10_order_63 : decode cX10_order 63 = .ok (.iload_n 2, 1) := by decide +kernel
theorem dX10_order_64 : decode cX10_order 64 = .ok (.invokevirtual 167, 3) := by decide +kernel
theorem dX10_order_67 : decode cX10_order 67 = .ok (.ireturn, 1) := by decide +kernel
set_option maxHeartbeats 4000000 in
set_option maxRecDepth 100000 in
theorem kX10_order (l : Launch) (z : Nat) (D : va_G) (cA : Nat → ClassId) (a0 : Nat) (x1 : Int32) (x2 : Int32) (M : Mem) (K : Int32 → Mem → Prop) (h : PX10_order a0 x1 x2 M K) : Met l yX10_order (.code yX10_order cX10_order 4 (some .int) :: gtbl) ({ frames := 4, cells := 0, slots := 0, locals := 95 } : Room) (va_Pc [.ref a0, .int x1, .int x2] (xB z D cA M)) (va_Qi K (xWd z D cA) (xA z)) 0 0 (xA z) := by
  refine x_met (by decide +kernel) (Nat.le_of_ble_eq_true rfl) (L0 := [(0, .ref a0), (1, .int x1), (2, .int x2)]) rfl ?_
  intro p e s m args below meth c E hr hlk hnm
  have E : xE RX10 cX10_order 4 D cA p s m args c := E
  replace h := h.2
  refine x_iload_n E dX10_order_0 rfl 1 rfl ?_
  refine x_callSi (As := [.int x1]) E mlX10_151 rfl stX10_isReading (kX10_isReading l z D cA x1 M _ h) rfl ⟨rfl, rfl⟩ ⟨Nat.le_of_ble_eq_true rfl, Nat.le_of_ble_eq_true rfl⟩ ⟨(Nat.le_of_ble_eq_true rfl), (Nat.le_of_ble_eq_true rfl)⟩ (Nat.le_of_ble_eq_true rfl) rfl dX10_order_1 (x_pure (fun r1 h => ?_))
  refine x_if_ne (tgt := 11) E dX10_order_4 (by decide) (fun c3 => ?_) (fun c3 => ?_)
  · replace h := xbr_f h c3
    clear c3
    refine x_aload_n E dX10_order_11 rfl 0 rfl ?_
    obtain ⟨hT, q4, hv, h⟩ := h
    refine x_get E flX10_39 dX10_order_12 hT hv ?_
    clear hT hv
    refine x_callVv (T := TX6) (N := 3) (t := 7) (As := []) E mlX10_158 inX6_clear seX6_clear rfl ⟨by decide, by decide⟩ (tX6_clear h) (kX6_clear l z D cA q4 M _ h) rfl ⟨rfl, rfl⟩ ⟨Nat.le_of_ble_eq_true rfl, Nat.le_of_ble_eq_true rfl⟩ ⟨(Nat.le_of_ble_eq_true rfl), (Nat.le_of_ble_eq_true rfl)⟩ (Nat.le_of_ble_eq_true rfl) rfl dX10_order_15 (fun M6 h => ?_)
    refine x_iconst (v := (J 0)) E dX10_order_18 (by decide) ?_
    refine x_istore_n (L' := [(3, .int (J 0)), (0, .ref a0), (1, .int x1), (2, .int x2)]) E dX10_order_19 rfl (by decide) rfl ?_
    refine x_sub (L' := [(0, .ref a0), (1, .int x1), (2, .int x2), (3, .int (J 0))]) [1, 2, 3, 0] rfl ?_
    refine lp_sound (T := fun sv => xG p l e ({ frames := 4, cells := 0, slots := 0, locals := 95 } : Room) s m args below meth c (MQ below (va_Qi K (xWd z D cA) (xA z)) args s 0 0 (xA z)) 4 z D cA sv.1 (0) (0) 20 [(0, .ref a0), (1, .int x1), (2, .int x2), (3, .int sv.2)] []) ?_ (M6, (J 0)) h
    clear h
    intro kc20 hk20 sv h
    obtain ⟨M, x3⟩ := sv
    replace h : CX10_order_20 K a0 x1 x2 kc20 M x3 := h
    try dsimp only
    refine x_iload_n E dX10_order_20 rfl 3 rfl ?_
    refine x_aload_n E dX10_order_21 rfl 0 rfl ?_
    obtain ⟨hT, q7, hv, h⟩ := h
    refine x_get E flX10_21 dX10_order_22 hT hv ?_
    clear hT hv
    refine x_callVi (T := TX2) (N := 4) (t := 3) (As := []) E mlX10_112 inX2_size seX2_size rfl ⟨by decide, by decide⟩ (tX2_size h) (kX2_size l z D cA q7 M _ h) rfl ⟨rfl, rfl⟩ ⟨Nat.le_of_ble_eq_true rfl, Nat.le_of_ble_eq_true rfl⟩ ⟨(Nat.le_of_ble_eq_true rfl), (Nat.le_of_ble_eq_true rfl)⟩ (Nat.le_of_ble_eq_true rfl) rfl dX10_order_25 (x_pure (fun r8 h => ?_))
    refine x_icmp_ge (tgt := 59) E dX10_order_28 (by decide) (fun c10 => ?_) (fun c10 => ?_)
    · replace h := xbr_t h c10
      clear c10
      refine x_aload_n E dX10_order_59 rfl 0 rfl ?_
      obtain ⟨hT, q11, hv, h⟩ := h
      refine x_get E flX10_39 dX10_order_60 hT hv ?_
      clear hT hv
      refine x_iload_n E dX10_order_63 rfl 2 rfl ?_
      refine x_callVi (T := TX6) (N := 3) (t := 7) (As := [.int x2]) E mlX10_167 inX6_bookAt seX6_bookAt rfl ⟨by decide, by decide⟩ (tX6_bookAt h) (kX6_bookAt l z D cA q11 x2 M _ h) rfl ⟨rfl, rfl⟩ ⟨Nat.le_of_ble_eq_true rfl, Nat.le_of_ble_eq_true rfl⟩ ⟨(Nat.le_of_ble_eq_true rfl), (Nat.le_of_ble_eq_true rfl)⟩ (Nat.le_of_ble_eq_true rfl) rfl dX10_order_64 (x_pure (fun r12 h => ?_))
      exact x_iret E hr hlk dX10_order_67 h
    · replace h := xbr_f h c10
      clear c10
      refine x_aload_n E dX10_order_31 rfl 0 rfl ?_
      obtain ⟨hT, q14, hv, h⟩ := h
      refine x_get E flX10_39 dX10_order_32 hT hv ?_
      clear hT hv
      refine x_aload_n E dX10_order_35 rfl 0 rfl ?_
      obtain ⟨hT, q15, hv, h⟩ := h
      refine x_get E flX10_39 dX10_order_36 hT hv ?_
      clear hT hv
      refine x_aload_n E dX10_order_39 rfl 0 rfl ?_
      obtain ⟨hT, q16, hv, h⟩ := h
      refine x_get E flX10_21 dX10_order_40 hT hv ?_
      clear hT hv
      refine x_iload_n E dX10_order_43 rfl 3 rfl ?_
      refine x_iload_n E dX10_order_44 rfl 1 rfl ?_
      refine x_callVi (T := TX6) (N := 3) (t := 7) (As := [.ref q16, .int x3, .int x1]) E mlX10_159 inX6_spotFor seX6_spotFor rfl ⟨by decide, by decide⟩ (tX6_spotFor h) (kX6_spotFor l z D cA q15 q16 x3 x1 M _ h) rfl ⟨rfl, rfl⟩ ⟨Nat.le_of_ble_eq_true rfl, Nat.le_of_ble_eq_true rfl⟩ ⟨(Nat.le_of_ble_eq_true rfl), (Nat.le_of_ble_eq_true rfl)⟩ (Nat.le_of_ble_eq_true rfl) rfl dX10_order_45 (x_pure (fun r17 h => ?_))
      refine x_iload_n E dX10_order_48 rfl 3 rfl ?_
      refine x_iconst (v := (J 0)) E dX10_order_49 (by decide) ?_
      refine x_callVv (T := TX6) (N := 3) (t := 7) (As := [.int r17, .int x3, .int (J 0)]) E mlX10_163 inX6_insert seX6_insert rfl ⟨by decide, by decide⟩ (tX6_insert h) (kX6_insert l z D cA q14 r17 x3 (J 0) M _ h) rfl ⟨rfl, rfl⟩ ⟨Nat.le_of_ble_eq_true rfl, Nat.le_of_ble_eq_true rfl⟩ ⟨(Nat.le_of_ble_eq_true rfl), (Nat.le_of_ble_eq_true rfl)⟩ (Nat.le_of_ble_eq_true rfl) rfl dX10_order_50 (fun M20 h => ?_)
      refine x_iinc (v := (x3 + (J 1))) (L' := [(3, .int (x3 + (J 1))), (0, .ref a0), (1, .int x1), (2, .int x2)]) E dX10_order_53 3 rfl rfl (by decide) rfl ?_
      refine x_goto (tgt := 20) E dX10_order_56 (by decide) ?_
      refine x_sub (L' := [(0, .ref a0), (1, .int x1), (2, .int x2), (3, .int (x3 + (J 1)))]) [1, 2, 3, 0] rfl ?_
      exact hk20 (M20, (x3 + (J 1))) h
  · replace h := xbr_t h c3
    clear c3
    refine x_sipush (v := (J (-1001))) E dX10_order_7 (by decide) ?_
    exact x_iret E hr hlk dX10_order_10 h
theorem dJ6_bitCount_0f7a4_0 : decode cJ6_bitCount_0f7a4 0 = .ok (.iload_n 0, 1) := by decide +kernel
theorem dJ6_bitCount_0f7a4_1 : decode cJ6_bitCount_0f7a4 1 = .ok (.iload_n 0, 1) := by decide +kernel
theorem dJ6_bitCount_0f7a4_2 : decode cJ6_bitCount_0f7a4 2 = .ok (.iconst 1, 1) := by decide +kernel
theorem dJ6_bitCount_0f7a4_3 : decode cJ6_bitCount_0f7a4 3 = .ok (.iushr, 1) := by decide +kernel
theorem dJ6_bitCount_0f7a4_4 : decode cJ6_bitCount_0f7a4 4 = .ok (.ldc_w 265, 3) := by decide +kernel
theorem dJ6_bitCount_0f7a4_7 : decode cJ6_bitCount_0f7a4 7 = .ok (.iand, 1) := by decide +kernel
theorem dJ6_bitCount_0f7a4_8 : decode cJ6_bitCount_0f7a4 8 = .ok (.isub, 1) := by decide +kernel
theorem dJ6_bitCount_0f7a4_9 : decode cJ6_bitCount_0f7a4 9 = .ok (.istore_n 0, 1) := by decide +kernel
theorem dJ6_bitCount_0f7a4_10 : decode cJ6_bitCount_0f7a4 10 = .ok (.iload_n 0, 1) := by decide +kernel
theorem dJ6_bitCount_0f7a4_11 : decode cJ6_bitCount_0f7a4 11 = .ok (.ldc_w 266, 3) := by decide +kernel
theorem dJ6_bitCount_0f7a4_14 : decode cJ6_bitCount_0f7a4 14 = .ok (.iand, 1) := by decide +kernel
theorem dJ6_bitCount_0f7a4_15 : decode cJ6_bitCount_0f7a4 15 = .ok (.iload_n 0, 1) := by decide +kernel
theorem dJ6_bitCount_0f7a4_16 : decode cJ6_bitCount_0f7a4 16 = .ok (.iconst 2, 1) := by decide +kernel
theorem dJ6_bitCount_0f7a4_17 : decode cJ6_bitCount_0f7a4 17 = .ok (.iushr, 1) := by decide +kernel
theorem dJ6_bitCount_0f7a4_18 : decode cJ6_bitCount_0f7a4 18 = .ok (.ldc_w 266, 3) := by decide +kernel
theorem dJ6_bitCount_0f7a4_21 : decode cJ6_bitCount_0f7a4 21 = .ok (.iand, 1) := by decide +kernel
theorem dJ6_bitCount_0f7a4_22 : decode cJ6_bitCount_0f7a4 22 = .ok (.iadd, 1) := by decide +kernel
theorem dJ6_bitCount_0f7a4_23 : decode cJ6_bitCount_0f7a4 23 = .ok (.istore_n 0, 1) := by decide +kernel
theorem dJ6_bitCount_0f7a4_24 : decode cJ6_bitCount_0f7a4 24 = .ok (.iload_n 0, 1) := by decide +kernel
theorem dJ6_bitCount_0f7a4_25 : decode cJ6_bitCount_0f7a4 25 = .ok (.iload_n 0, 1) := by decide +kernel
theorem dJ6_bitCount_0f7a4_26 : decode cJ6_bitCount_0f7a4 26 = .ok (.iconst 4, 1) := by decide +kernel
theorem dJ6_bitCount_0f7a4_27 : decode cJ6_bitCount_0f7a4 27 = .ok (.iushr, 1) := by decide +kernel
theorem dJ6_bitCount_0f7a4_28 : decode cJ6_bitCount_0f7a4 28 = .ok (.iadd, 1) := by decide +kernel
theorem dJ6_bitCount_0f7a4_29 : decode cJ6_bitCount_0f7a4 29 = .ok (.ldc_w 267, 3) := by decide +kernel
theorem dJ6_bitCount_0f7a4_32 : decode cJ6_bitCount_0f7a4 32 = .ok (.iand, 1) := by decide +kernel
theorem dJ6_bitCount_0f7a4_33 : decode cJ6_bitCount_0f7a4 33 = .ok (.istore_n 0, 1) := by decide +kernel
theorem dJ6_bitCount_0f7a4_34 : decode cJ6_bitCount_0f7a4 34 = .ok (.iload_n 0, 1) := by decide +kernel
theorem dJ6_bitCount_0f7a4_35 : decode cJ6_bitCount_0f7a4 35 = .ok (.iload_n 0, 1) := by decide +kernel
theorem dJ6_bitCount_0f7a4_36 : decode cJ6_bitCount_0f7a4 36 = .ok (.bipush 8, 2) := by decide +kernel
theorem dJ6_bitCount_0f7a4_38 : decode cJ6_bitCount_0f7a4 38 = .ok (.iushr, 1) := by decide +kernel
theorem dJ6_bitCount_0f7a4_39 : decode cJ6_bitCount_0f7a4 39 = .ok (.iadd, 1) := by decide +kernel
theorem dJ6_bitCount_0f7a4_40 : decode cJ6_bitCount_0f7a4 40 = .ok (.istore_n 0, 1) := by decide +kernel
theorem dJ6_bitCount_0f7a4_41 : decode cJ6_bitCount_0f7a4 41 = .ok (.iload_n 0, 1) := by decide +kernel
theorem dJ6_bitCount_0f7a4_42 : decode cJ6_bitCount_0f7a4 42 = .ok (.iload_n 0, 1) := by decide +kernel
theorem dJ6_bitCount_0f7a4_43 : decode cJ6_bitCount_0f7a4 43 = .ok (.bipush 16, 2) := by decide +kernel
theorem dJ6_bitCount_0f7a4_45 : decode cJ6_bitCount_0f7a4 45 = .ok (.iushr, 1) := by decide +kernel
theorem dJ6_bitCount_0f7a4_46 : decode cJ6_bitCount_0f7a4 46 = .ok (.iadd, 1) := by decide +kernel
theorem dJ6_bitCount_0f7a4_47 : decode cJ6_bitCount_0f7a4 47 = .ok (.istore_n 0, 1) := by decide +kernel
theorem dJ6_bitCount_0f7a4_48 : decode cJ6_bitCount_0f7a4 48 = .ok (.iload_n 0, 1) := by decide +kernel
theorem dJ6_bitCount_0f7a4_49 : decode cJ6_bitCount_0f7a4 49 = .ok (.bipush 63, 2) := by decide +kernel
theorem dJ6_bitCount_0f7a4_51 : decode cJ6_bitCount_0f7a4 51 = .ok (.iand, 1) := by decide +kernel
theorem dJ6_bitCount_0f7a4_52 : decode cJ6_bitCount_0f7a4 52 = .ok (.ireturn, 1) := by decide +kernel
set_option maxHeartbeats 4000000 in
set_option maxRecDepth 100000 in
theorem kJ6_bitCount_0f7a4 (l : Launch) (z : Nat) (D : va_G) (cA : Nat → ClassId) (x0 : Int32) (M : Mem) (K : Int32 → Prop) (h : PJ6_bitCount_0f7a4 x0 M K) : Met l yJ6_bitCount_0f7a4 (.code yJ6_bitCount_0f7a4 cJ6_bitCount_0f7a4 1 (some .int) :: gtbl) ({ frames := 0, cells := 0, slots := 0, locals := 0 } : Room) (va_Pc [.int x0] (xB z D cA M)) (va_Qi (fun r M1 => M1 = M ∧ K r) (xWd z D cA) (xA z)) 0 0 (xA z) := by
  refine x_met (by decide +kernel) (Nat.le_of_ble_eq_true rfl) (L0 := [(0, .int x0)]) rfl ?_
  intro p e s m args below meth c E hr hlk hnm
  have E : xE RJ6 cJ6_bitCount_0f7a4 1 D cA p s m args c := E
  refine x_iload_n E dJ6_bitCount_0f7a4_0 rfl 0 rfl ?_
  refine x_iload_n E dJ6_bitCount_0f7a4_1 rfl 0 rfl ?_
  refine x_iconst (v := (J 1)) E dJ6_bitCount_0f7a4_2 (by decide) ?_
  refine x_iushr E dJ6_bitCount_0f7a4_3 ?_
  refine x_ldcw (v := (J 1431655765)) E (gw 525 (by decide +kernel) rfl) dJ6_bitCount_0f7a4_4 ?_
  refine x_iand E dJ6_bitCount_0f7a4_7 ?_
  refine x_isub E dJ6_bitCount_0f7a4_8 ?_
  obtain ⟨y1, ey1, h⟩ := h
  refine x_top (v := .int y1) (congrArg _ ey1) ?_
  clear ey1
  refine x_istore_n (L' := [(0, .int y1)]) E dJ6_bitCount_0f7a4_9 rfl (by decide) rfl ?_
  refine x_iload_n E dJ6_bitCount_0f7a4_10 rfl 0 rfl ?_
  refine x_ldcw (v := (J 858993459)) E (gw 526 (by decide +kernel) rfl) dJ6_bitCount_0f7a4_11 ?_
  refine x_iand E dJ6_bitCount_0f7a4_14 ?_
  refine x_iload_n E dJ6_bitCount_0f7a4_15 rfl 0 rfl ?_
  refine x_iconst (v := (J 2)) E dJ6_bitCount_0f7a4_16 (by decide) ?_
  refine x_iushr E dJ6_bitCount_0f7a4_17 ?_
  refine x_ldcw (v := (J 858993459)) E (gw 526 (by decide +kernel) rfl) dJ6_bitCount_0f7a4_18 ?_
  refine x_iand E dJ6_bitCount_0f7a4_21 ?_
  refine x_iadd E dJ6_bitCount_0f7a4_22 ?_
  obtain ⟨y2, ey2, h⟩ := h
  refine x_top (v := .int y2) (congrArg _ ey2) ?_
  clear ey2
  refine x_istore_n (L' := [(0, .int y2)]) E dJ6_bitCount_0f7a4_23 rfl (by decide) rfl ?_
  refine x_iload_n E dJ6_bitCount_0f7a4_24 rfl 0 rfl ?_
  refine x_iload_n E dJ6_bitCount_0f7a4_25 rfl 0 rfl ?_
  refine x_iconst (v := (J 4)) E dJ6_bitCount_0f7a4_26 (by decide) ?_
  refine x_iushr E dJ6_bitCount_0f7a4_27 ?_
  refine x_iadd E dJ6_bitCount_0f7a4_28 ?_
  refine x_ldcw (v := (J 252645135)) E (gw 527 (by decide +kernel) rfl) dJ6_bitCount_0f7a4_29 ?_
  refine x_iand E dJ6_bitCount_0f7a4_32 ?_
  obtain ⟨y3, ey3, h⟩ := h
  refine x_top (v := .int y3) (congrArg _ ey3) ?_
  clear ey3
  refine x_istore_n (L' := [(0, .int y3)]) E dJ6_bitCount_0f7a4_33 rfl (by decide) rfl ?_
  refine x_iload_n E dJ6_bitCount_0f7a4_34 rfl 0 rfl ?_
  refine x_iload_n E dJ6_bitCount_0f7a4_35 rfl 0 rfl ?_
  refine x_bipush (v := (J 8)) E dJ6_bitCount_0f7a4_36 (by decide) ?_
  refine x_iushr E dJ6_bitCount_0f7a4_38 ?_
  refine x_iadd E dJ6_bitCount_0f7a4_39 ?_
  obtain ⟨y4, ey4, h⟩ := h
  refine x_top (v := .int y4) (congrArg _ ey4) ?_
  clear ey4
  refine x_istore_n (L' := [(0, .int y4)]) E dJ6_bitCount_0f7a4_40 rfl (by decide) rfl ?_
  refine x_iload_n E dJ6_bitCount_0f7a4_41 rfl 0 rfl ?_
  refine x_iload_n E dJ6_bitCount_0f7a4_42 rfl 0 rfl ?_
  refine x_bipush (v := (J 16)) E dJ6_bitCount_0f7a4_43 (by decide) ?_
  refine x_iushr E dJ6_bitCount_0f7a4_45 ?_
  refine x_iadd E dJ6_bitCount_0f7a4_46 ?_
  obtain ⟨y5, ey5, h⟩ := h
  refine x_top (v := .int y5) (congrArg _ ey5) ?_
  clear ey5
  refine x_istore_n (L' := [(0, .int y5)]) E dJ6_bitCount_0f7a4_47 rfl (by decide) rfl ?_
  refine x_iload_n E dJ6_bitCount_0f7a4_48 rfl 0 rfl ?_
  refine x_bipush (v := (J 63)) E dJ6_bitCount_0f7a4_49 (by decide) ?_
  refine x_iand E dJ6_bitCount_0f7a4_51 ?_
  exact x_iret E hr hlk dJ6_bitCount_0f7a4_52 ⟨rfl, h⟩
theorem dX10_count_0 : decode cX10_count 0 = .ok (.iload_n 1, 1) := by decide +kernel
theorem dX10_count_1 : decode cX10_count 1 = .ok (.tableswitch 63 0 3 #[31, 39, 47, 55], 31) := by decide +kernel
theorem dX10_count_32 : decode cX10_count 32 = .ok (.aload_n 0, 1) := by decide +kernel
theorem dX10_count_33 : decode cX10_count 33 = .ok (.getfield 21, 3) := by decide +kernel
theorem dX10_count_36 : decode cX10_count 36 = .ok (.invokevirtual 112, 3) := by decide +kernel
theorem dX10_count_39 : decode cX10_count 39 = .ok (.ireturn, 1) := by decide +kernel
theorem dX10_count_40 : decode cX10_count 40 = .ok (.aload_n 0, 1) := by decide +kernel
theorem dX10_count_41 : decode cX10_count 41 = .ok (.getfield 35, 3) := by decide +kernel
theorem dX10_count_44 : decode cX10_count 44 = .ok (.invokevirtual 170, 3) := by decide +kernel
theorem dX10_count_47 : decode cX10_count 47 = .ok (.ireturn, 1) := by decide +kernel
theorem dX10_count_48 : decode cX10_count 48 = .ok (.aload_n 0, 1) := by decide +kernel
theorem dX10_count_49 : decode cX10_count 49 = .ok (.getfield 14, 3) := by decide +kernel
theorem dX10_count_52 : decode cX10_count 52 = .ok (.invokevirtual 83, 3) := by decide +kernel
theorem dX10_count_55 : decode cX10_count 55 = .ok (.ireturn, 1) := by decide +kernel
theorem dX10_count_56 : decode cX10_count 56 = .ok (.aload_n 0, 1) := by decide +kernel
theorem dX10_count_57 : decode cX10_count 57 = .ok (.getfield 77, 3) := by decide +kernel
theorem dX10_count_60 : decode cX10_count 60 = .ok (.invokestatic 171, 3) := by decide +kernel
theorem dX10_count_63 : decode cX10_count 63 = .ok (.ireturn, 1) := by decide +kernel
theorem dX10_count_64 : decode cX10_count 64 = .ok (.sipush (-1002), 3) := by decide +kernel
theorem dX10_count_67 : decode cX10_count 67 = .ok (.ireturn, 1) := by decide +kernel
set_option maxHeartbeats 4000000 in
set_option maxRecDepth 100000 in
theorem kX10_count (l : Launch) (z : Nat) (D : va_G) (cA : Nat → ClassId) (a0 : Nat) (x1 : Int32) (M : Mem) (K : Int32 → Prop) (h : PX10_count a0 x1 M K) : Met l yX10_count (.code yX10_count cX10_count 2 (some .int) :: gtbl) ({ frames := 1, cells := 0, slots := 0, locals := 20 } : Room) (va_Pc [.ref a0, .int x1] (xB z D cA M)) (va_Qi (fun r M1 => M1 = M ∧ K r) (xWd z D cA) (xA z)) 0 0 (xA z) := by
  refine x_met (by decide +kernel) (Nat.le_of_ble_eq_true rfl) (L0 := [(0, .ref a0), (1, .int x1)]) rfl ?_
  intro p e s m args below meth c E hr hlk hnm
  have E : xE RX10 cX10_count 2 D cA p s m args c := E
  replace h := h.2
  refine x_iload_n E dX10_count_0 rfl 1 rfl ?_
  by_cases c1 : x1 = (J 0)
  · replace h := xbr_t h c1
    refine x_tableIn (off := 31) (tgt := 32) E dX10_count_1 (by rw [c1]; decide) (by rw [c1]; decide) (by rw [c1]; decide) (by decide) ?_
    refine x_aload_n E dX10_count_32 rfl 0 rfl ?_
    obtain ⟨hT, q2, hv, h⟩ := h
    refine x_get E flX10_21 dX10_count_33 hT hv ?_
    clear hT hv
    refine x_callVi (T := TX2) (N := 4) (t := 3) (As := []) E mlX10_112 inX2_size seX2_size rfl ⟨by decide, by decide⟩ (tX2_size h) (kX2_size l z D cA q2 M _ h) rfl ⟨rfl, rfl⟩ ⟨Nat.le_of_ble_eq_true rfl, Nat.le_of_ble_eq_true rfl⟩ ⟨(Nat.le_of_ble_eq_true rfl), (Nat.le_of_ble_eq_true rfl)⟩ (Nat.le_of_ble_eq_true rfl) rfl dX10_count_36 (x_pure (fun r3 h => ?_))
    exact x_iret E hr hlk dX10_count_39 ⟨rfl, h⟩
  replace h := xbr_f h c1
  by_cases c5 : x1 = (J 1)
  · replace h := xbr_t h c5
    refine x_tableIn (off := 39) (tgt := 40) E dX10_count_1 (by rw [c5]; decide) (by rw [c5]; decide) (by rw [c5]; decide) (by decide) ?_
    refine x_aload_n E dX10_count_40 rfl 0 rfl ?_
    obtain ⟨hT, q6, hv, h⟩ := h
    refine x_get E flX10_35 dX10_count_41 hT hv ?_
    clear hT hv
    refine x_callVi (T := TX6) (N := 3) (t := 7) (As := []) E mlX10_170 inX6_size seX6_size rfl ⟨by decide, by decide⟩ (tX6_size h) (kX6_size l z D cA q6 M _ h) rfl ⟨rfl, rfl⟩ ⟨Nat.le_of_ble_eq_true rfl, Nat.le_of_ble_eq_true rfl⟩ ⟨(Nat.le_of_ble_eq_true rfl), (Nat.le_of_ble_eq_true rfl)⟩ (Nat.le_of_ble_eq_true rfl) rfl dX10_count_44 (x_pure (fun r7 h => ?_))
    exact x_iret E hr hlk dX10_count_47 ⟨rfl, h⟩
  replace h := xbr_f h c5
  by_cases c9 : x1 = (J 2)
  · replace h := xbr_t h c9
    refine x_tableIn (off := 47) (tgt := 48) E dX10_count_1 (by rw [c9]; decide) (by rw [c9]; decide) (by rw [c9]; decide) (by decide) ?_
    refine x_aload_n E dX10_count_48 rfl 0 rfl ?_
    obtain ⟨hT, q10, hv, h⟩ := h
    refine x_get E flX10_14 dX10_count_49 hT hv ?_
    clear hT hv
    refine x_callVi (T := TX1) (N := 2) (t := 2) (As := []) E mlX10_83 inX1_size seX1_size rfl ⟨by decide, by decide⟩ (tX1_size h) (kX1_size l z D cA q10 M _ h) rfl ⟨rfl, rfl⟩ ⟨Nat.le_of_ble_eq_true rfl, Nat.le_of_ble_eq_true rfl⟩ ⟨(Nat.le_of_ble_eq_true rfl), (Nat.le_of_ble_eq_true rfl)⟩ (Nat.le_of_ble_eq_true rfl) rfl dX10_count_52 (x_pure (fun r11 h => ?_))
    exact x_iret E hr hlk dX10_count_55 ⟨rfl, h⟩
  replace h := xbr_f h c9
  by_cases c13 : x1 = (J 3)
  · replace h := xbr_t h c13
    refine x_tableIn (off := 55) (tgt := 56) E dX10_count_1 (by rw [c13]; decide) (by rw [c13]; decide) (by rw [c13]; decide) (by decide) ?_
    refine x_aload_n E dX10_count_56 rfl 0 rfl ?_
    obtain ⟨hT, v14, hv, h⟩ := h
    refine x_get E flX10_77 dX10_count_57 hT hv ?_
    clear hT hv
    refine x_callSJ (As := [.int v14]) E mlX10_171 stJ6_bitCount_0f7a4 (kJ6_bitCount_0f7a4 l z D cA v14 M _ h) rfl ⟨rfl, rfl⟩ ⟨Nat.le_of_ble_eq_true rfl, Nat.le_of_ble_eq_true rfl⟩ ⟨(Nat.le_of_ble_eq_true rfl), (Nat.le_of_ble_eq_true rfl)⟩ (Nat.le_of_ble_eq_true rfl) rfl dX10_count_60 (x_pure (fun r15 h => ?_))
    exact x_iret E hr hlk dX10_count_63 ⟨rfl, h⟩
  replace h := xbr_f h c13
  have nc1 := lv_neT c1 (a := 0) (by decide)
  have nc5 := lv_neT c5 (a := 1) (by decide)
  have nc9 := lv_neT c9 (a := 2) (by decide)
  have nc13 := lv_neT c13 (a := 3) (by decide)
  refine x_tableOut (tgt := 64) E dX10_count_1 (by omega) (by decide) ?_
  clear c1 c5 c9 c13
  clear nc1 nc5 nc9 nc13
  refine x_sipush (v := (J (-1002))) E dX10_count_64 (by decide) ?_
  exact x_iret E hr hlk dX10_count_67 ⟨rfl, h⟩
theorem dX10_width_0 : decode cX10_width 0 = .ok (.iload_n 1, 1) := by decide +kernel
theorem dX10_width_1 : decode cX10_width 1 = .ok (.invokestatic 176, 3) := by decide +kernel
theorem dX10_width_4 : decode cX10_width 4 = .ok (.ifCond .ne 7, 3) := by decide +kernel
theorem dX10_width_7 : decode cX10_width 7 = .ok (.sipush (-1001), 3) := by decide +kernel
theorem dX10_width_10 : decode cX10_width 10 = .ok (.ireturn, 1) := by decide +kernel
theorem dX10_width_11 : decode cX10_width 11 = .ok (.iload_n 2, 1) := by decide +kernel
theorem dX10_width_12 : decode cX10_width 12 = .ok (.iconst 1, 1) := by decide +kernel
theorem dX10_width_13 : decode cX10_width 13 = .ok (.if_icmp .lt 9, 3) := by decide +kernel
theorem dX10_width_16 : decode cX10_width 16 = .ok (.iload_n 2, 1) := by decide +kernel
theorem dX10_width_17 : decode cX10_width 17 = .ok (.bipush 60, 2) := by decide +kernel
theorem dX10_width_19 : decode cX10_width 19 = .ok (.if_icmp .le 7, 3) := by decide +kernel
theorem dX10_width_22 : decode cX10_width 22 = .ok (.sipush (-1002), 3) := by decide +kernel
theorem dX10_width_25 : decode cX10_width 25 = .ok (.ireturn, 1) := by decide +kernel
theorem dX10_width_26 : decode cX10_width 26 = .ok (.aload_n 0, 1) := by decide +kernel
theorem dX10_width_27 : decode cX10_width 27 = .ok (.getfield 28, 3) := by decide +kernel
theorem dX10_width_30 : decode cX10_width 30 = .ok (.iload_n 1, 1) := by decide +kernel
theorem dX10_width_31 : decode cX10_width 31 = .ok (.invokevirtual 179, 3) := by decide +kernel
theorem dX10_width_34 : decode cX10_width 34 = .ok (.istore_n 3, 1) := by decide +kernel
theorem dX10_width_35 : decode cX10_width 35 = .ok (.iload_n 3, 1) := by decide +kernel
theorem dX10_width_36 : decode cX10_width 36 = .ok (.aload_n 0, 1) := by decide +kernel
theorem dX10_width_37 : decode cX10_width 37 = .ok (.getfield 28, 3) := by decide +kernel
theorem dX10_width_40 : decode cX10_width 40 = .ok (.aload_n 0, 1) := by decide +kernel
theorem dX10_width_41 : decode cX10_width 41 = .ok (.getfield 35, 3) := by decide +kernel
theorem dX10_width_44 : decode cX10_width 44 = .ok (.aload_n 0, 1) := by decide +kernel
theorem dX10_width_45 : decode cX10_width 45 = .ok (.getfield 21, 3) := by decide +kernel
theorem dX10_width_48 : decode cX10_width 48 = .ok (.iload_n 1, 1) := by decide +kernel
theorem dX10_width_49 : decode cX10_width 49 = .ok (.invokevirtual 182, 3) := by decide +kernel
theorem dX10_width_52 : decode cX10_width 52 = .ok (.isub, 1) := by decide +kernel
theorem dX10_width_53 : decode cX10_width 53 = .ok (.iload_n 2, 1) := by decide +kernel
theorem dX10_width_54 : decode cX10_width 54 = .ok (.if_icmp .le 7, 3) := by decide +kernel
theorem dX10_width_57 : decode cX10_width 57 = .ok (.sipush (-1003), 3) := by decide +kernel
theorem dX10_width_60 : decode cX10_width 60 = .ok (.ireturn, 1) := by decide +kernel
theorem dX10_width_61 : decode cX10_width 61 = .ok (.aload_n 0, 1) := by decide +kernel
theorem dX10_width_62 : decode cX10_width 62 = .ok (.getfield 28, 3) := by decide +kernel
theorem dX10_width_65 : decode cX10_width 65 = .ok (.iload_n 1, 1) := by decide +kernel
theorem dX10_width_66 : decode cX10_width 66 = .ok (.iload_n 2, 1) := by decide +kernel
theorem dX10_width_67 : decode cX10_width 67 = .ok (.invokevirtual 186, 3) := by decide +kernel
theorem dX10_width_70 : decode cX10_width 70 = .ok (.iload_n 3, 1) := by decide +kernel
theorem dX10_width_71 : decode cX10_width 71 = .ok (.ireturn, 1) := by decide +kernel
set_option maxHeartbeats 4000000 in
set_option maxRecDepth 100000 in
theorem kX10_width (l : Launch) (z : Nat) (D : va_G) (cA : Nat → ClassId) (a0 : Nat) (x1 : Int32) (x2 : Int32) (M : Mem) (K : Int32 → Mem → Prop) (h : PX10_width a0 x1 x2 M K) : Met l yX10_width (.code yX10_width cX10_width 4 (some .int) :: gtbl) ({ frames := 2, cells := 0, slots := 0, locals := 47 } : Room) (va_Pc [.ref a0, .int x1, .int x2] (xB z D cA M)) (va_Qi K (xWd z D cA) (xA z)) 0 0 (xA z) := by
  refine x_met (by decide +kernel) (Nat.le_of_ble_eq_true rfl) (L0 := [(0, .ref a0), (1, .int x1), (2, .int x2)]) rfl ?_
  intro p e s m args below meth c E hr hlk hnm
  have E : xE RX10 cX10_width 4 D cA p s m args c := E
  replace h := h.2
  refine x_iload_n E dX10_width_0 rfl 1 rfl ?_
  refine x_callSi (As := [.int x1]) E mlX10_176 rfl stX10_isShelf (kX10_isShelf l z D cA x1 M _ h) rfl ⟨rfl, rfl⟩ ⟨Nat.le_of_ble_eq_true rfl, Nat.le_of_ble_eq_true rfl⟩ ⟨(Nat.le_of_ble_eq_true rfl), (Nat.le_of_ble_eq_true rfl)⟩ (Nat.le_of_ble_eq_true rfl) rfl dX10_width_1 (x_pure (fun r1 h => ?_))
  refine x_if_ne (tgt := 11) E dX10_width_4 (by decide) (fun c3 => ?_) (fun c3 => ?_)
  · replace h := xbr_f h c3
    clear c3
    refine x_iload_n E dX10_width_11 rfl 2 rfl ?_
    refine x_iconst (v := (J 1)) E dX10_width_12 (by decide) ?_
    refine x_icmp_lt (tgt := 22) E dX10_width_13 (by decide) (fun c4 => ?_) (fun c4 => ?_)
    · replace h := xbr_t h c4
      clear c4
      refine x_sipush (v := (J (-1002))) E dX10_width_22 (by decide) ?_
      exact x_iret E hr hlk dX10_width_25 h
    · replace h := xbr_f h c4
      clear c4
      refine x_iload_n E dX10_width_16 rfl 2 rfl ?_
      refine x_bipush (v := (J 60)) E dX10_width_17 (by decide) ?_
      refine x_icmp_le (tgt := 26) E dX10_width_19 (by decide) (fun c5 => ?_) (fun c5 => ?_)
      · replace h := xbr_t h c5
        clear c5
        refine x_aload_n E dX10_width_26 rfl 0 rfl ?_
        obtain ⟨hT, q6, hv, h⟩ := h
        refine x_get E flX10_28 dX10_width_27 hT hv ?_
        clear hT hv
        refine x_iload_n E dX10_width_30 rfl 1 rfl ?_
        refine x_callVi (T := TX8) (N := 1) (t := 9) (As := [.int x1]) E mlX10_179 inX8_widthOf seX8_widthOf rfl ⟨by decide, by decide⟩ (tX8_widthOf h) (kX8_widthOf l z D cA q6 x1 M _ h) rfl ⟨rfl, rfl⟩ ⟨Nat.le_of_ble_eq_true rfl, Nat.le_of_ble_eq_true rfl⟩ ⟨(Nat.le_of_ble_eq_true rfl), (Nat.le_of_ble_eq_true rfl)⟩ (Nat.le_of_ble_eq_true rfl) rfl dX10_width_31 (x_pure (fun r7 h => ?_))
        refine x_istore_n (L' := [(3, .int r7), (0, .ref a0), (1, .int x1), (2, .int x2)]) E dX10_width_34 rfl (by decide) rfl ?_
        refine x_iload_n E dX10_width_35 rfl 0 rfl ?_
        refine x_aload_n E dX10_width_36 rfl 1 rfl ?_
        obtain ⟨hT, q9, hv, h⟩ := h
        refine x_get E flX10_28 dX10_width_37 hT hv ?_
        clear hT hv
        refine x_aload_n E dX10_width_40 rfl 1 rfl ?_
        obtain ⟨hT, q10, hv, h⟩ := h
        refine x_get E flX10_35 dX10_width_41 hT hv ?_
        clear hT hv
        refine x_aload_n E dX10_width_44 rfl 1 rfl ?_
        obtain ⟨hT, q11, hv, h⟩ := h
        refine x_get E flX10_21 dX10_width_45 hT hv ?_
        clear hT hv
        refine x_iload_n E dX10_width_48 rfl 2 rfl ?_
        refine x_callVi (T := TX8) (N := 1) (t := 9) (As := [.ref q10, .ref q11, .int x1]) E mlX10_182 inX8_left seX8_left rfl ⟨by decide, by decide⟩ (tX8_left h) (kX8_left l z D cA q9 q10 q11 x1 M _ h) rfl ⟨rfl, rfl⟩ ⟨Nat.le_of_ble_eq_true rfl, Nat.le_of_ble_eq_true rfl⟩ ⟨(Nat.le_of_ble_eq_true rfl), (Nat.le_of_ble_eq_true rfl)⟩ (Nat.le_of_ble_eq_true rfl) rfl dX10_width_49 (x_pure (fun r12 h => ?_))
        refine x_isub E dX10_width_52 ?_
        refine x_iload_n E dX10_width_53 rfl 3 rfl ?_
        refine x_icmp_le (tgt := 61) E dX10_width_54 (by decide) (fun c14 => ?_) (fun c14 => ?_)
        · replace h := xbr_t h c14
          clear c14
          refine x_aload_n E dX10_width_61 rfl 1 rfl ?_
          obtain ⟨hT, q15, hv, h⟩ := h
          refine x_get E flX10_28 dX10_width_62 hT hv ?_
          clear hT hv
          refine x_iload_n E dX10_width_65 rfl 2 rfl ?_
          refine x_iload_n E dX10_width_66 rfl 3 rfl ?_
          refine x_callVv (T := TX8) (N := 1) (t := 9) (As := [.int x1, .int x2]) E mlX10_186 inX8_widen seX8_widen rfl ⟨by decide, by decide⟩ (tX8_widen h) (kX8_widen l z D cA q15 x1 x2 M _ h) rfl ⟨rfl, rfl⟩ ⟨Nat.le_of_ble_eq_true rfl, Nat.le_of_ble_eq_true rfl⟩ ⟨(Nat.le_of_ble_eq_true rfl), (Nat.le_of_ble_eq_true rfl)⟩ (Nat.le_of_ble_eq_true rfl) rfl dX10_width_67 (fun M17 h => ?_)
          refine x_iload_n E dX10_width_70 rfl 0 rfl ?_
          exact x_iret E hr hlk dX10_width_71 h
        · replace h := xbr_f h c14
          clear c14
          refine x_sipush (v := (J (-1003))) E dX10_width_57 (by decide) ?_
          exact x_iret E hr hlk dX10_width_60 h
      · replace h := xbr_f h c5
        clear c5
        refine x_sipush (v := (J (-1002))) E dX10_width_22 (by decide) ?_
        exact x_iret E hr hlk dX10_width_25 h
  · replace h := xbr_t h c3
    clear c3
    refine x_sipush (v := (J (-1001))) E dX10_width_7 (by decide) ?_
    exact x_iret E hr hlk dX10_width_10 h
theorem dX10_shelf_0 : decode cX10_shelf 0 = .ok (.iload_n 1, 1) := by decide +kernel
theorem dX10_shelf_1 : decode cX10_shelf 1 = .ok (.invokestatic 176, 3) := by decide +kernel
theorem dX10_shelf_4 : decode cX10_shelf 4 = .ok (.ifCond .ne 7, 3) := by decide +kernel
theorem dX10_shelf_7 : decode cX10_shelf 7 = .ok (.sipush (-1001), 3) := by decide +kernel
theorem dX10_shelf_10 : decode cX10_shelf 10 = .ok (.ireturn, 1) := by decide +kernel
theorem dX10_shelf_11 : decode cX10_shelf 11 = .ok (.iload_n 2, 1) := by decide +kernel
theorem dX10_shelf_12 : decode cX10_shelf 12 = .ok (.iconst (-1), 1) := by decide +kernel
theorem dX10_shelf_13 : decode cX10_shelf 13 = .ok (.if_icmp .ne 14, 3) := by decide +kernel
theorem dX10_shelf_16 : decode cX10_shelf 16 = .ok (.aload_n 0, 1) := by decide +kernel
theorem dX10_shelf_17 : decode cX10_shelf 17 = .ok (.getfield 35, 3) := by decide +kernel
theorem dX10_shelf_20 : decode cX10_shelf 20 = .ok (.iload_n 1, 1) := by decide +kernel
theorem dX10_shelf_21 : decode cX10_shelf 21 = .ok (.invokevirtual 190, 3) := by decide +kernel
theorem dX10_shelf_24 : decode cX10_shelf 24 = .ok (.goto 12, 3) := by decide +kernel
theorem dX10_shelf_27 : decode cX10_shelf 27 = .ok (.aload_n 0, 1) := by decide +kernel
theorem dX10_shelf_28 : decode cX10_shelf 28 = .ok (.getfield 35, 3) := by decide +kernel
theorem dX10_shelf_31 : decode cX10_shelf 31 = .ok (.iload_n 1, 1) := by decide +kernel
theorem dX10_shelf_32 : decode cX10_shelf 32 = .ok (.iload_n 2, 1) := by decide +kernel
theorem dX10_shelf_33 : decode cX10_shelf 33 = .ok (.invokevirtual 193, 3) := by decide +kernel
theorem dX10_shelf_36 : decode cX10_shelf 36 = .ok (.ireturn, 1) := by decide +kernel
set_option maxHeartbeats 4000000 in
set_option maxRecDepth 100000 in
theorem kX10_shelf (l : Launch) (z : Nat) (D : va_G) (cA : Nat → ClassId) (a0 : Nat) (x1 : Int32) (x2 : Int32) (M : Mem) (K : Int32 → Prop) (h : PX10_shelf a0 x1 x2 M K) : Met l yX10_shelf (.code yX10_shelf cX10_shelf 3 (some .int) :: gtbl) ({ frames := 2, cells := 0, slots := 0, locals := 48 } : Room) (va_Pc [.ref a0, .int x1, .int x2] (xB z D cA M)) (va_Qi (fun r M1 => M1 = M ∧ K r) (xWd z D cA) (xA z)) 0 0 (xA z) := by
  refine x_met (by decide +kernel) (Nat.le_of_ble_eq_true rfl) (L0 := [(0, .ref a0), (1, .int x1), (2, .int x2)]) rfl ?_
  intro p e s m args below meth c E hr hlk hnm
  have E : xE RX10 cX10_shelf 3 D cA p s m args c := E
  replace h := h.2
  refine x_iload_n E dX10_shelf_0 rfl 1 rfl ?_
  refine x_callSi (As := [.int x1]) E mlX10_176 rfl stX10_isShelf (kX10_isShelf l z D cA x1 M _ h) rfl ⟨rfl, rfl⟩ ⟨Nat.le_of_ble_eq_true rfl, Nat.le_of_ble_eq_true rfl⟩ ⟨(Nat.le_of_ble_eq_true rfl), (Nat.le_of_ble_eq_true rfl)⟩ (Nat.le_of_ble_eq_true rfl) rfl dX10_shelf_1 (x_pure (fun r1 h => ?_))
  refine x_if_ne (tgt := 11) E dX10_shelf_4 (by decide) (fun c3 => ?_) (fun c3 => ?_)
  · replace h := xbr_f h c3
    clear c3
    refine x_iload_n E dX10_shelf_11 rfl 2 rfl ?_
    refine x_iconst (v := (J (-1))) E dX10_shelf_12 (by decide) ?_
    refine x_icmp_ne (tgt := 27) E dX10_shelf_13 (by decide) (fun c4 => ?_) (fun c4 => ?_)
    · replace h := xbr_f h c4
      clear c4
      refine x_aload_n E dX10_shelf_27 rfl 0 rfl ?_
      obtain ⟨hT, q5, hv, h⟩ := h
      refine x_get E flX10_35 dX10_shelf_28 hT hv ?_
      clear hT hv
      refine x_iload_n E dX10_shelf_31 rfl 1 rfl ?_
      refine x_iload_n E dX10_shelf_32 rfl 2 rfl ?_
      refine x_callVi (T := TX6) (N := 3) (t := 7) (As := [.int x1, .int x2]) E mlX10_193 inX6_onShelf seX6_onShelf rfl ⟨by decide, by decide⟩ (tX6_onShelf h) (kX6_onShelf l z D cA q5 x1 x2 M _ h) rfl ⟨rfl, rfl⟩ ⟨Nat.le_of_ble_eq_true rfl, Nat.le_of_ble_eq_true rfl⟩ ⟨(Nat.le_of_ble_eq_true rfl), (Nat.le_of_ble_eq_true rfl)⟩ (Nat.le_of_ble_eq_true rfl) rfl dX10_shelf_33 (x_pure (fun r6 h => ?_))
      exact x_iret E hr hlk dX10_shelf_36 ⟨rfl, h⟩
    · replace h := xbr_t h c4
      clear c4
      refine x_aload_n E dX10_shelf_16 rfl 0 rfl ?_
      obtain ⟨hT, q8, hv, h⟩ := h
      refine x_get E flX10_35 dX10_shelf_17 hT hv ?_
      clear hT hv
      refine x_iload_n E dX10_shelf_20 rfl 1 rfl ?_
      refine x_callVi (T := TX6) (N := 3) (t := 7) (As := [.int x1]) E mlX10_190 inX6_amount seX6_amount rfl ⟨by decide, by decide⟩ (tX6_amount h) (kX6_amount l z D cA q8 x1 M _ h) rfl ⟨rfl, rfl⟩ ⟨Nat.le_of_ble_eq_true rfl, Nat.le_of_ble_eq_true rfl⟩ ⟨(Nat.le_of_ble_eq_true rfl), (Nat.le_of_ble_eq_true rfl)⟩ (Nat.le_of_ble_eq_true rfl) rfl dX10_shelf_21 (x_pure (fun r9 h => ?_))
      refine x_goto (tgt := 36) E dX10_shelf_24 (by decide) ?_
      exact x_iret E hr hlk dX10_shelf_36 ⟨rfl, h⟩
  · replace h := xbr_t h c3
    clear c3
    refine x_sipush (v := (J (-1001))) E dX10_shelf_7 (by decide) ?_
    exact x_iret E hr hlk dX10_shelf_10 ⟨rfl, h⟩
theorem dX10_room_0 : decode cX10_room 0 = .ok (.iload_n 1, 1) := by decide +kernel
theorem dX10_room_1 : decode cX10_room 1 = .ok (.invokestatic 176, 3) := by decide +kernel
theorem dX10_room_4 : decode cX10_room 4 = .ok (.ifCond .eq 22, 3) := by decide +kernel
theorem dX10_room_7 : decode cX10_room 7 = .ok (.aload_n 0, 1) := by decide +kernel
theorem dX10_room_8 : decode cX10_room 8 = .ok (.getfield 28, 3) := by decide +kernel
theorem dX10_room_11 : decode cX10_room 11 = .ok (.aload_n 0, 1) := by decide +kernel
theorem dX10_room_12 : decode cX10_room 12 = .ok (.getfield 35, 3) := by decide +kernel
theorem dX10_room_15 : decode cX10_room 15 = .ok (.aload_n 0, 1) := by decide +kernel
theorem dX10_room_16 : decode cX10_room 16 = .ok (.getfield 21, 3) := by decide +kernel
theorem dX10_room_19 : decode cX10_room 19 = .ok (.iload_n 1, 1) := by decide +kernel
theorem dX10_room_20 : decode cX10_room 20 = .ok (.invokevirtual 182, 3) := by decide +kernel
theorem dX10_room_23 : decode cX10_room 23 = .ok (.goto 6, 3) := by decide +kernel
theorem dX10_room_26 : decode cX10_room 26 = .ok (.sipush (-1001), 3) := by decide +kernel
theorem dX10_room_29 : decode cX10_room 29 = .ok (.ireturn, 1) := by decide +kernel
set_option maxHeartbeats 4000000 in
set_option maxRecDepth 100000 in
theorem kX10_room (l : Launch) (z : Nat) (D : va_G) (cA : Nat → ClassId) (a0 : Nat) (x1 : Int32) (M : Mem) (K : Int32 → Prop) (h : PX10_room a0 x1 M K) : Met l yX10_room (.code yX10_room cX10_room 2 (some .int) :: gtbl) ({ frames := 2, cells := 0, slots := 0, locals := 47 } : Room) (va_Pc [.ref a0, .int x1] (xB z D cA M)) (va_Qi (fun r M1 => M1 = M ∧ K r) (xWd z D cA) (xA z)) 0 0 (xA z) := by
  refine x_met (by decide +kernel) (Nat.le_of_ble_eq_true rfl) (L0 := [(0, .ref a0), (1, .int x1)]) rfl ?_
  intro p e s m args below meth c E hr hlk hnm
  have E : xE RX10 cX10_room 2 D cA p s m args c := E
  replace h := h.2
  refine x_iload_n E dX10_room_0 rfl 1 rfl ?_
  refine x_callSi (As := [.int x1]) E mlX10_176 rfl stX10_isShelf (kX10_isShelf l z D cA x1 M _ h) rfl ⟨rfl, rfl⟩ ⟨Nat.le_of_ble_eq_true rfl, Nat.le_of_ble_eq_true rfl⟩ ⟨(Nat.le_of_ble_eq_true rfl), (Nat.le_of_ble_eq_true rfl)⟩ (Nat.le_of_ble_eq_true rfl) rfl dX10_room_1 (x_pure (fun r1 h => ?_))
  refine x_if_eq (tgt := 26) E dX10_room_4 (by decide) (fun c3 => ?_) (fun c3 => ?_)
  · replace h := xbr_t h c3
    clear c3
    refine x_sipush (v := (J (-1001))) E dX10_room_26 (by decide) ?_
    exact x_iret E hr hlk dX10_room_29 ⟨rfl, h⟩
  · replace h := xbr_f h c3
    clear c3
    refine x_aload_n E dX10_room_7 rfl 0 rfl ?_
    obtain ⟨hT, q4, hv, h⟩ := h
    refine x_get E flX10_28 dX10_room_8 hT hv ?_
    clear hT hv
    refine x_aload_n E dX10_room_11 rfl 0 rfl ?_
    obtain ⟨hT, q5, hv, h⟩ := h
    refine x_get E flX10_35 dX10_room_12 hT hv ?_
    clear hT hv
    refine x_aload_n E dX10_room_15 rfl 0 rfl ?_
    obtain ⟨hT, q6, hv, h⟩ := h
    refine x_get E flX10_21 dX10_room_16 hT hv ?_
    clear hT hv
    refine x_iload_n E dX10_room_19 rfl 1 rfl ?_
    refine x_callVi (T := TX8) (N := 1) (t := 9) (As := [.ref q5, .ref q6, .int x1]) E mlX10_182 inX8_left seX8_left rfl ⟨by decide, by decide⟩ (tX8_left h) (kX8_left l z D cA q4 q5 q6 x1 M _ h) rfl ⟨rfl, rfl⟩ ⟨Nat.le_of_ble_eq_true rfl, Nat.le_of_ble_eq_true rfl⟩ ⟨(Nat.le_of_ble_eq_true rfl), (Nat.le_of_ble_eq_true rfl)⟩ (Nat.le_of_ble_eq_true rfl) rfl dX10_room_20 (x_pure (fun r7 h => ?_))
    refine x_goto (tgt := 29) E dX10_room_23 (by decide) ?_
    exact x_iret E hr hlk dX10_room_29 ⟨rfl, h⟩
theorem dX10_set_0 : decode cX10_set 0 = .ok (.aload_n 0, 1) := by decide +kernel
theorem dX10_set_1 : decode cX10_set 1 = .ok (.getfield 21, 3) := by decide +kernel
theorem dX10_set_4 : decode cX10_set 4 = .ok (.iload_n 1, 1) := by decide +kernel
theorem dX10_set_5 : decode cX10_set 5 = .ok (.invokevirtual 113, 3) := by decide +kernel
theorem dX10_set_8 : decode cX10_set 8 = .ok (.ifCond .eq 10, 3) := by decide +kernel
theorem dX10_set_11 : decode cX10_set 11 = .ok (.iload_n 2, 1) := by decide +kernel
theorem dX10_set_12 : decode cX10_set 12 = .ok (.invokestatic 176, 3) := by decide +kernel
theorem dX10_set_15 : decode cX10_set 15 = .ok (.ifCond .ne 7, 3) := by decide +kernel
theorem dX10_set_18 : decode cX10_set 18 = .ok (.sipush (-1001), 3) := by decide +kernel
theorem dX10_set_21 : decode cX10_set 21 = .ok (.ireturn, 1) := by decide +kernel
theorem dX10_set_22 : decode cX10_set 22 = .ok (.iload_n 3, 1) := by decide +kernel
theorem dX10_set_23 : decode cX10_set 23 = .ok (.ifCond .lt 15, 3) := by decide +kernel
theorem dX10_set_26 : decode cX10_set 26 = .ok (.iload_n 3, 1) := by decide +kernel
theorem dX10_set_27 : decode cX10_set 27 = .ok (.aload_n 0, 1) := by decide +kernel
theorem dX10_set_28 : decode cX10_set 28 = .ok (.getfield 35, 3) := by decide +kernel
theorem dX10_set_31 : decode cX10_set 31 = .ok (.iload_n 2, 1) := by decide +kernel
theorem dX10_set_32 : decode cX10_set 32 = .ok (.invokevirtual 190, 3) := by decide +kernel
theorem dX10_set_35 : decode cX10_set 35 = .ok (.if_icmp .le 7, 3) := by decide +kernel
theorem dX10_set_38 : decode cX10_set 38 = .ok (.sipush (-1002), 3) := by decide +kernel
theorem dX10_set_41 : decode cX10_set 41 = .ok (.ireturn, 1) := by decide +kernel
theorem dX10_set_42 : decode cX10_set 42 = .ok (.aload_n 0, 1) := by decide +kernel
theorem dX10_set_43 : decode cX10_set 43 = .ok (.getfield 35, 3) := by decide +kernel
theorem dX10_set_46 : decode cX10_set 46 = .ok (.iload_n 1, 1) := by decide +kernel
theorem dX10_set_47 : decode cX10_set 47 = .ok (.invokevirtual 136, 3) := by decide +kernel
theorem dX10_set_50 : decode cX10_set 50 = .ok (.ifCond .ne 33, 3) := by decide +kernel
theorem dX10_set_53 : decode cX10_set 53 = .ok (.aload_n 0, 1) := by decide +kernel
theorem dX10_set_54 : decode cX10_set 54 = .ok (.getfield 28, 3) := by decide +kernel
theorem dX10_set_57 : decode cX10_set 57 = .ok (.aload_n 0, 1) := by decide +kernel
theorem dX10_set_58 : decode cX10_set 58 = .ok (.getfield 35, 3) := by decide +kernel
theorem dX10_set_61 : decode cX10_set 61 = .ok (.aload_n 0, 1) := by decide +kernel
theorem dX10_set_62 : decode cX10_set 62 = .ok (.getfield 21, 3) := by decide +kernel
theorem dX10_set_65 : decode cX10_set 65 = .ok (.iload_n 2, 1) := by decide +kernel
theorem dX10_set_66 : decode cX10_set 66 = .ok (.invokevirtual 182, 3) := by decide +kernel
theorem dX10_set_69 : decode cX10_set 69 = .ok (.aload_n 0, 1) := by decide +kernel
theorem dX10_set_70 : decode cX10_set 70 = .ok (.getfield 21, 3) := by decide +kernel
theorem dX10_set_73 : decode cX10_set 73 = .ok (.iload_n 1, 1) := by decide +kernel
theorem dX10_set_74 : decode cX10_set 74 = .ok (.invokevirtual 117, 3) := by decide +kernel
theorem dX10_set_77 : decode cX10_set 77 = .ok (.getfield 129, 3) := by decide +kernel
theorem dX10_set_80 : decode cX10_set 80 = .ok (.if_icmp .ge 7, 3) := by decide +kernel
theorem dX10_set_83 : decode cX10_set 83 = .ok (.sipush (-1003), 3) := by decide +kernel
theorem dX10_set_86 : decode cX10_set 86 = .ok (.ireturn, 1) := by decide +kernel
theorem dX10_set_87 : decode cX10_set 87 = .ok (.aload_n 0, 1) := by decide +kernel
theorem dX10_set_88 : decode cX10_set 88 = .ok (.getfield 35, 3) := by decide +kernel
theorem dX10_set_91 : decode cX10_set 91 = .ok (.aload_n 0, 1) := by decide +kernel
theorem dX10_set_92 : decode cX10_set 92 = .ok (.getfield 35, 3) := by decide +kernel
theorem dX10_set_95 : decode cX10_set 95 = .ok (.iload_n 2, 1) := by decide +kernel
theorem dX10_set_96 : decode cX10_set 96 = .ok (.invokevirtual 142, 3) := by decide +kernel
theorem dX10_set_99 : decode cX10_set 99 = .ok (.iload_n 3, 1) := by decide +kernel
theorem dX10_set_100 : decode cX10_set 100 = .ok (.iadd, 1) := by decide +kernel
theorem dX10_set_101 : decode cX10_set 101 = .ok (.iload_n 1, 1) := by decide +kernel
theorem dX10_set_102 : decode cX10_set 102 = .ok (.iload_n 2, 1) := by decide +kernel
theorem dX10_set_103 : decode cX10_set 103 = .ok (.invokevirtual 163, 3) := by decide +kernel
theorem dX10_set_106 : decode cX10_set 106 = .ok (.iconst 1, 1) := by decide +kernel
theorem dX10_set_107 : decode cX10_set 107 = .ok (.ireturn, 1) := by decide +kernel
set_option maxHeartbeats 4000000 in
set_option maxRecDepth 100000 in
theorem kX10_set (l : Launch) (z : Nat) (D : va_G) (cA : Nat → ClassId) (a0 : Nat) (x1 : Int32) (x2 : Int32) (x3 : Int32) (M : Mem) (K : Int32 → Mem → Prop) (h : PX10_set a0 x1 x2 x3 M K) : Met l yX10_set (.code yX10_set cX10_set 4 (some .int) :: gtbl) ({ frames := 2, cells := 0, slots := 0, locals := 47 } : Room) (va_Pc [.ref a0, .int x1, .int x2, .int x3] (xB z D cA M)) (va_Qi K (xWd z D cA) (xA z)) 0 0 (xA z) := by
  refine x_met (by decide +kernel) (Nat.le_of_ble_eq_true rfl) (L0 := [(0, .ref a0), (1, .int x1), (2, .int x2), (3, .int x3)]) rfl ?_
  intro p e s m args below meth c E hr hlk hnm
  have E : xE RX10 cX10_set 4 D cA p s m args c := E
  replace h := h.2
  refine x_aload_n E dX10_set_0 rfl 0 rfl ?_
  obtain ⟨hT, q1, hv, h⟩ := h
  refine x_get E flX10_21 dX10_set_1 hT hv ?_
  clear hT hv
  refine x_iload_n E dX10_set_4 rfl 1 rfl ?_
  refine x_callVi (T := TX2) (N := 4) (t := 3) (As := [.int x1]) E mlX10_113 inX2_has seX2_has rfl ⟨by decide, by decide⟩ (tX2_has h) (kX2_has l z D cA q1 x1 M _ h) rfl ⟨rfl, rfl⟩ ⟨Nat.le_of_ble_eq_true rfl, Nat.le_of_ble_eq_true rfl⟩ ⟨(Nat.le_of_ble_eq_true rfl), (Nat.le_of_ble_eq_true rfl)⟩ (Nat.le_of_ble_eq_true rfl) rfl dX10_set_5 (x_pure (fun r2 h => ?_))
  refine x_if_eq (tgt := 18) E dX10_set_8 (by decide) (fun c4 => ?_) (fun c4 => ?_)
  · replace h := xbr_t h c4
    clear c4
    refine x_sipush (v := (J (-1001))) E dX10_set_18 (by decide) ?_
    exact x_iret E hr hlk dX10_set_21 h
  · replace h := xbr_f h c4
    clear c4
    refine x_iload_n E dX10_set_11 rfl 2 rfl ?_
    refine x_callSi (As := [.int x2]) E mlX10_176 rfl stX10_isShelf (kX10_isShelf l z D cA x2 M _ h) rfl ⟨rfl, rfl⟩ ⟨Nat.le_of_ble_eq_true rfl, Nat.le_of_ble_eq_true rfl⟩ ⟨(Nat.le_of_ble_eq_true rfl), (Nat.le_of_ble_eq_true rfl)⟩ (Nat.le_of_ble_eq_true rfl) rfl dX10_set_12 (x_pure (fun r5 h => ?_))
    refine x_if_ne (tgt := 22) E dX10_set_15 (by decide) (fun c7 => ?_) (fun c7 => ?_)
    · replace h := xbr_f h c7
      clear c7
      refine x_iload_n E dX10_set_22 rfl 3 rfl ?_
      refine x_if_lt (tgt := 38) E dX10_set_23 (by decide) (fun c8 => ?_) (fun c8 => ?_)
      · replace h := xbr_t h c8
        clear c8
        refine x_sipush (v := (J (-1002))) E dX10_set_38 (by decide) ?_
        exact x_iret E hr hlk dX10_set_41 h
      · replace h := xbr_f h c8
        clear c8
        refine x_iload_n E dX10_set_26 rfl 3 rfl ?_
        refine x_aload_n E dX10_set_27 rfl 0 rfl ?_
        obtain ⟨hT, q9, hv, h⟩ := h
        refine x_get E flX10_35 dX10_set_28 hT hv ?_
        clear hT hv
        refine x_iload_n E dX10_set_31 rfl 2 rfl ?_
        refine x_callVi (T := TX6) (N := 3) (t := 7) (As := [.int x2]) E mlX10_190 inX6_amount seX6_amount rfl ⟨by decide, by decide⟩ (tX6_amount h) (kX6_amount l z D cA q9 x2 M _ h) rfl ⟨rfl, rfl⟩ ⟨Nat.le_of_ble_eq_true rfl, Nat.le_of_ble_eq_true rfl⟩ ⟨(Nat.le_of_ble_eq_true rfl), (Nat.le_of_ble_eq_true rfl)⟩ (Nat.le_of_ble_eq_true rfl) rfl dX10_set_32 (x_pure (fun r10 h => ?_))
        refine x_icmp_le (tgt := 42) E dX10_set_35 (by decide) (fun c12 => ?_) (fun c12 => ?_)
        · replace h := xbr_t h c12
          clear c12
          refine x_aload_n E dX10_set_42 rfl 0 rfl ?_
          obtain ⟨hT, q13, hv, h⟩ := h
          refine x_get E flX10_35 dX10_set_43 hT hv ?_
          clear hT hv
          refine x_iload_n E dX10_set_46 rfl 1 rfl ?_
          refine x_callVi (T := TX6) (N := 3) (t := 7) (As := [.int x1]) E mlX10_136 inX6_stands seX6_stands rfl ⟨by decide, by decide⟩ (tX6_stands h) (kX6_stands l z D cA q13 x1 M _ h) rfl ⟨rfl, rfl⟩ ⟨Nat.le_of_ble_eq_true rfl, Nat.le_of_ble_eq_true rfl⟩ ⟨(Nat.le_of_ble_eq_true rfl), (Nat.le_of_ble_eq_true rfl)⟩ (Nat.le_of_ble_eq_true rfl) rfl dX10_set_47 (x_pure (fun r14 h => ?_))
          refine x_if_ne (tgt := 83) E dX10_set_50 (by decide) (fun c16 => ?_) (fun c16 => ?_)
          · replace h := xbr_f h c16
            clear c16
            refine x_sipush (v := (J (-1003))) E dX10_set_83 (by decide) ?_
            exact x_iret E hr hlk dX10_set_86 h
          · replace h := xbr_t h c16
            clear c16
            refine x_aload_n E dX10_set_53 rfl 0 rfl ?_
            obtain ⟨hT, q17, hv, h⟩ := h
            refine x_get E flX10_28 dX10_set_54 hT hv ?_
            clear hT hv
            refine x_aload_n E dX10_set_57 rfl 0 rfl ?_
            obtain ⟨hT, q18, hv, h⟩ := h
            refine x_get E flX10_35 dX10_set_58 hT hv ?_
            clear hT hv
            refine x_aload_n E dX10_set_61 rfl 0 rfl ?_
            obtain ⟨hT, q19, hv, h⟩ := h
            refine x_get E flX10_21 dX10_set_62 hT hv ?_
            clear hT hv
            refine x_iload_n E dX10_set_65 rfl 2 rfl ?_
            refine x_callVi (T := TX8) (N := 1) (t := 9) (As := [.ref q18, .ref q19, .int x2]) E mlX10_182 inX8_left seX8_left rfl ⟨by decide, by decide⟩ (tX8_left h) (kX8_left l z D cA q17 q18 q19 x2 M _ h) rfl ⟨rfl, rfl⟩ ⟨Nat.le_of_ble_eq_true rfl, Nat.le_of_ble_eq_true rfl⟩ ⟨(Nat.le_of_ble_eq_true rfl), (Nat.le_of_ble_eq_true rfl)⟩ (Nat.le_of_ble_eq_true rfl) rfl dX10_set_66 (x_pure (fun r20 h => ?_))
            refine x_aload_n E dX10_set_69 rfl 0 rfl ?_
            obtain ⟨hT, q22, hv, h⟩ := h
            refine x_get E flX10_21 dX10_set_70 hT hv ?_
            clear hT hv
            refine x_iload_n E dX10_set_73 rfl 1 rfl ?_
            refine x_callVr (T := TX2) (N := 4) (t := 3) (As := [.int x1]) E mlX10_117 inX2_of seX2_of rfl ⟨by decide, by decide⟩ (tX2_of h) (kX2_of l z D cA q22 x1 M _ h) rfl ⟨rfl, rfl⟩ ⟨Nat.le_of_ble_eq_true rfl, Nat.le_of_ble_eq_true rfl⟩ ⟨(Nat.le_of_ble_eq_true rfl), (Nat.le_of_ble_eq_true rfl)⟩ (Nat.le_of_ble_eq_true rfl) rfl dX10_set_74 (fun q23 h => ?_)
            obtain ⟨hT, v25, hv, h⟩ := h
            refine x_get E flX10_129 dX10_set_77 hT hv ?_
            clear hT hv
            refine x_icmp_ge (tgt := 87) E dX10_set_80 (by decide) (fun c26 => ?_) (fun c26 => ?_)
            · replace h := xbr_t h c26
              clear c26
              refine x_aload_n E dX10_set_87 rfl 0 rfl ?_
              obtain ⟨hT, q27, hv, h⟩ := h
              refine x_get E flX10_35 dX10_set_88 hT hv ?_
              clear hT hv
              refine x_aload_n E dX10_set_91 rfl 0 rfl ?_
              obtain ⟨hT, q28, hv, h⟩ := h
              refine x_get E flX10_35 dX10_set_92 hT hv ?_
              clear hT hv
              refine x_iload_n E dX10_set_95 rfl 2 rfl ?_
              refine x_callVi (T := TX6) (N := 3) (t := 7) (As := [.int x2]) E mlX10_142 inX6_start seX6_start rfl ⟨by decide, by decide⟩ (tX6_start h) (kX6_start l z D cA q28 x2 M _ h) rfl ⟨rfl, rfl⟩ ⟨Nat.le_of_ble_eq_true rfl, Nat.le_of_ble_eq_true rfl⟩ ⟨(Nat.le_of_ble_eq_true rfl), (Nat.le_of_ble_eq_true rfl)⟩ (Nat.le_of_ble_eq_true rfl) rfl dX10_set_96 (x_pure (fun r29 h => ?_))
              refine x_iload_n E dX10_set_99 rfl 3 rfl ?_
              refine x_iadd E dX10_set_100 ?_
              refine x_iload_n E dX10_set_101 rfl 1 rfl ?_
              refine x_iload_n E dX10_set_102 rfl 2 rfl ?_
              refine x_callVv (T := TX6) (N := 3) (t := 7) (As := [.int (r29 + x3), .int x1, .int x2]) E mlX10_163 inX6_insert seX6_insert rfl ⟨by decide, by decide⟩ (tX6_insert h) (kX6_insert l z D cA q27 (r29 + x3) x1 x2 M _ h) rfl ⟨rfl, rfl⟩ ⟨Nat.le_of_ble_eq_true rfl, Nat.le_of_ble_eq_true rfl⟩ ⟨(Nat.le_of_ble_eq_true rfl), (Nat.le_of_ble_eq_true rfl)⟩ (Nat.le_of_ble_eq_true rfl) rfl dX10_set_103 (fun M32 h => ?_)
              refine x_iconst (v := (J 1)) E dX10_set_106 (by decide) ?_
              exact x_iret E hr hlk dX10_set_107 h
            · replace h := xbr_f h c26
              clear c26
              refine x_sipush (v := (J (-1003))) E dX10_set_83 (by decide) ?_
              exact x_iret E hr hlk dX10_set_86 h
        · replace h := xbr_f h c12
          clear c12
          refine x_sipush (v := (J (-1002))) E dX10_set_38 (by decide) ?_
          exact x_iret E hr hlk dX10_set_41 h
    · replace h := xbr_t h c7
      clear c7
      refine x_sipush (v := (J (-1001))) E dX10_set_18 (by decide) ?_
      exact x_iret E hr hlk dX10_set_21 h
theorem dX10_putIfItGoes_0 : decode cX10_putIfItGoes 0 = .ok (.aload_n 0, 1) := by decide +kernel
theorem dX10_putIfItGoes_1 : decode cX10_putIfItGoes 1 = .ok (.getfield 39, 3) := by decide +kernel
theorem dX10_putIfItGoes_4 : decode cX10_putIfItGoes 4 = .ok (.aload_n 0, 1) := by decide +kernel
theorem dX10_putIfItGoes_5 : decode cX10_putIfItGoes 5 = .ok (.getfield 35, 3) := by decide +kernel
theorem dX10_putIfItGoes_8 : decode cX10_putIfItGoes 8 = .ok (.invokevirtual 214, 3) := by decide +kernel
theorem dX10_putIfItGoes_11 : decode cX10_putIfItGoes 11 = .ok (.aload_n 0, 1) := by decide +kernel
theorem dX10_putIfItGoes_12 : decode cX10_putIfItGoes 12 = .ok (.getfield 28, 3) := by decide +kernel
theorem dX10_putIfItGoes_15 : decode cX10_putIfItGoes 15 = .ok (.aload_n 0, 1) := by decide +kernel
theorem dX10_putIfItGoes_16 : decode cX10_putIfItGoes 16 = .ok (.getfield 39, 3) := by decide +kernel
theorem dX10_putIfItGoes_19 : decode cX10_putIfItGoes 19 = .ok (.aload_n 0, 1) := by decide +kernel
theorem dX10_putIfItGoes_20 : decode cX10_putIfItGoes 20 = .ok (.getfield 21, 3) := by decide +kernel
theorem dX10_putIfItGoes_23 : decode cX10_putIfItGoes 23 = .ok (.iload_n 1, 1) := by decide +kernel
theorem dX10_putIfItGoes_24 : decode cX10_putIfItGoes 24 = .ok (.iload_n 2, 1) := by decide +kernel
theorem dX10_putIfItGoes_25 : decode cX10_putIfItGoes 25 = .ok (.invokevirtual 221, 3) := by decide +kernel
theorem dX10_putIfItGoes_28 : decode cX10_putIfItGoes 28 = .ok (.ifCond .ne 5, 3) := by decide +kernel
theorem dX10_putIfItGoes_31 : decode cX10_putIfItGoes 31 = .ok (.iconst 0, 1) := by decide +kernel
theorem dX10_putIfItGoes_32 : decode cX10_putIfItGoes 32 = .ok (.ireturn, 1) := by decide +kernel
theorem dX10_putIfItGoes_33 : decode cX10_putIfItGoes 33 = .ok (.aload_n 0, 1) := by decide +kernel
theorem dX10_putIfItGoes_34 : decode cX10_putIfItGoes 34 = .ok (.getfield 35, 3) := by decide +kernel
theorem dX10_putIfItGoes_37 : decode cX10_putIfItGoes 37 = .ok (.aload_n 0, 1) := by decide +kernel
theorem dX10_putIfItGoes_38 : decode cX10_putIfItGoes 38 = .ok (.getfield 39, 3) := by decide +kernel
theorem dX10_putIfItGoes_41 : decode cX10_putIfItGoes 41 = .ok (.invokevirtual 214, 3) := by decide +kernel
theorem dX10_putIfItGoes_44 : decode cX10_putIfItGoes 44 = .ok (.iconst 1, 1) := by decide +kernel
theorem dX10_putIfItGoes_45 : decode cX10_putIfItGoes 45 = .ok (.ireturn, 1) := by decide +kernel
set_option maxHeartbeats 4000000 in
set_option maxRecDepth 100000 in
theorem kX10_putIfItGoes (l : Launch) (z : Nat) (D : va_G) (cA : Nat → ClassId) (a0 : Nat) (x1 : Int32) (x2 : Int32) (M : Mem) (K : Int32 → Mem → Prop) (h : PX10_putIfItGoes a0 x1 x2 M K) : Met l yX10_putIfItGoes (.code yX10_putIfItGoes cX10_putIfItGoes 3 (some .boolean) :: gtbl) ({ frames := 5, cells := 0, slots := 0, locals := 128 } : Room) (va_Pc [.ref a0, .int x1, .int x2] (xB z D cA M)) (va_Qi K (xWd z D cA) (xA z)) 0 0 (xA z) := by
  refine x_met (by decide +kernel) (Nat.le_of_ble_eq_true rfl) (L0 := [(0, .ref a0), (1, .int x1), (2, .int x2)]) rfl ?_
  intro p e s m args below meth c E hr hlk hnm
  have E : xE RX10 cX10_putIfItGoes 3 D cA p s m args c := E
  replace h := h.2
  refine x_aload_n E dX10_putIfItGoes_0 rfl 0 rfl ?_
  obtain ⟨hT, q1, hv, h⟩ := h
  refine x_get E flX10_39 dX10_putIfItGoes_1 hT hv ?_
  clear hT hv
  refine x_aload_n E dX10_putIfItGoes_4 rfl 0 rfl ?_
  obtain ⟨hT, q2, hv, h⟩ := h
  refine x_get E flX10_35 dX10_putIfItGoes_5 hT hv ?_
  clear hT hv
  refine x_callVv (T := TX6) (N := 3) (t := 7) (As := [.ref q2]) E mlX10_214 inX6_copyFrom seX6_copyFrom rfl ⟨by decide, by decide⟩ (tX6_copyFrom h) (kX6_copyFrom l z D cA q1 q2 M _ h) rfl ⟨rfl, rfl⟩ ⟨Nat.le_of_ble_eq_true rfl, Nat.le_of_ble_eq_true rfl⟩ ⟨(Nat.le_of_ble_eq_true rfl), (Nat.le_of_ble_eq_true rfl)⟩ (Nat.le_of_ble_eq_true rfl) rfl dX10_putIfItGoes_8 (fun M4 h => ?_)
  refine x_aload_n E dX10_putIfItGoes_11 rfl 0 rfl ?_
  obtain ⟨hT, q5, hv, h⟩ := h
  refine x_get E flX10_28 dX10_putIfItGoes_12 hT hv ?_
  clear hT hv
  refine x_aload_n E dX10_putIfItGoes_15 rfl 0 rfl ?_
  obtain ⟨hT, q6, hv, h⟩ := h
  refine x_get E flX10_39 dX10_putIfItGoes_16 hT hv ?_
  clear hT hv
  refine x_aload_n E dX10_putIfItGoes_19 rfl 0 rfl ?_
  obtain ⟨hT, q7, hv, h⟩ := h
  refine x_get E flX10_21 dX10_putIfItGoes_20 hT hv ?_
  clear hT hv
  refine x_iload_n E dX10_putIfItGoes_23 rfl 1 rfl ?_
  refine x_iload_n E dX10_putIfItGoes_24 rfl 2 rfl ?_
  refine x_callVi (T := TX8) (N := 1) (t := 9) (As := [.ref q6, .ref q7, .int x1, .int x2]) E mlX10_221 inX8_putBy seX8_putBy rfl ⟨by decide, by decide⟩ (tX8_putBy h) (kX8_putBy l z D cA q5 q6 q7 x1 x2 M4 _ h) rfl ⟨rfl, rfl⟩ ⟨Nat.le_of_ble_eq_true rfl, Nat.le_of_ble_eq_true rfl⟩ ⟨(Nat.le_of_ble_eq_true rfl), (Nat.le_of_ble_eq_true rfl)⟩ (Nat.le_of_ble_eq_true rfl) rfl dX10_putIfItGoes_25 (fun r8 M9 h => ?_)
  refine x_if_ne (tgt := 33) E dX10_putIfItGoes_28 (by decide) (fun c10 => ?_) (fun c10 => ?_)
  · replace h := xbr_f h c10
    clear c10
    refine x_aload_n E dX10_putIfItGoes_33 rfl 0 rfl ?_
    obtain ⟨hT, q11, hv, h⟩ := h
    refine x_get E flX10_35 dX10_putIfItGoes_34 hT hv ?_
    clear hT hv
    refine x_aload_n E dX10_putIfItGoes_37 rfl 0 rfl ?_
    obtain ⟨hT, q12, hv, h⟩ := h
    refine x_get E flX10_39 dX10_putIfItGoes_38 hT hv ?_
    clear hT hv
    refine x_callVv (T := TX6) (N := 3) (t := 7) (As := [.ref q12]) E mlX10_214 inX6_copyFrom seX6_copyFrom rfl ⟨by decide, by decide⟩ (tX6_copyFrom h) (kX6_copyFrom l z D cA q11 q12 M9 _ h) rfl ⟨rfl, rfl⟩ ⟨Nat.le_of_ble_eq_true rfl, Nat.le_of_ble_eq_true rfl⟩ ⟨(Nat.le_of_ble_eq_true rfl), (Nat.le_of_ble_eq_true rfl)⟩ (Nat.le_of_ble_eq_true rfl) rfl dX10_putIfItGoes_41 (fun M14 h => ?_)
    refine x_iconst (v := (J 1)) E dX10_putIfItGoes_44 (by decide) ?_
    exact x_zret E hr hlk dX10_putIfItGoes_45 h.1 h.2
  · replace h := xbr_t h c10
    clear c10
    refine x_iconst (v := (J 0)) E dX10_putIfItGoes_31 (by decide) ?_
    exact x_zret E hr hlk dX10_putIfItGoes_32 h.1 h.2
theorem dX10_put_0 : decode cX10_put 0 = .ok (.aload_n 0, 1) := by decide +kernel
theorem dX10_put_1 : decode cX10_put 1 = .ok (.getfield 21, 3) := by decide +kernel
theorem dX10_put_4 : decode cX10_put 4 = .ok (.iload_n 1, 1) := by decide +kernel
theorem dX10_put_5 : decode cX10_put 5 = .ok (.invokevirtual 113, 3) := by decide +kernel
theorem dX10_put_8 : decode cX10_put 8 = .ok (.ifCond .eq 10, 3) := by decide +kernel
theorem dX10_put_11 : decode cX10_put 11 = .ok (.iload_n 2, 1) := by decide +kernel
theorem dX10_put_12 : decode cX10_put 12 = .ok (.invokestatic 151, 3) := by decide +kernel
theorem dX10_put_15 : decode cX10_put 15 = .ok (.ifCond .ne 7, 3) := by decide +kernel
theorem dX10_put_18 : decode cX10_put 18 = .ok (.sipush (-1001), 3) := by decide +kernel
theorem dX10_put_21 : decode cX10_put 21 = .ok (.ireturn, 1) := by decide +kernel
theorem dX10_put_22 : decode cX10_put 22 = .ok (.aload_n 0, 1) := by decide +kernel
theorem dX10_put_23 : decode cX10_put 23 = .ok (.getfield 35, 3) := by decide +kernel
theorem dX10_put_26 : decode cX10_put 26 = .ok (.iload_n 1, 1) := by decide +kernel
theorem dX10_put_27 : decode cX10_put 27 = .ok (.invokevirtual 136, 3) := by decide +kernel
theorem dX10_put_30 : decode cX10_put 30 = .ok (.ifCond .ne 12, 3) := by decide +kernel
theorem dX10_put_33 : decode cX10_put 33 = .ok (.aload_n 0, 1) := by decide +kernel
theorem dX10_put_34 : decode cX10_put 34 = .ok (.iload_n 1, 1) := by decide +kernel
theorem dX10_put_35 : decode cX10_put 35 = .ok (.iload_n 2, 1) := by decide +kernel
theorem dX10_put_36 : decode cX10_put 36 = .ok (.invokevirtual 197, 3) := by decide +kernel
theorem dX10_put_39 : decode cX10_put 39 = .ok (.ifCond .ne 7, 3) := by decide +kernel
theorem dX10_put_42 : decode cX10_put 42 = .ok (.sipush (-1003), 3) := by decide +kernel
theorem dX10_put_45 : decode cX10_put 45 = .ok (.ireturn, 1) := by decide +kernel
theorem dX10_put_46 : decode cX10_put 46 = .ok (.aload_n 0, 1) := by decide +kernel
theorem dX10_put_47 : decode cX10_put 47 = .ok (.getfield 35, 3) := by decide +kernel
theorem dX10_put_50 : decode cX10_put 50 = .ok (.iload_n 1, 1) := by decide +kernel
theorem dX10_put_51 : decode cX10_put 51 = .ok (.invokevirtual 132, 3) := by decide +kernel
theorem dX10_put_54 : decode cX10_put 54 = .ok (.ireturn, 1) := by decide +kernel
set_option maxHeartbeats 4000000 in
set_option maxRecDepth 100000 in
theorem kX10_put (l : Launch) (z : Nat) (D : va_G) (cA : Nat → ClassId) (a0 : Nat) (x1 : Int32) (x2 : Int32) (M : Mem) (K : Int32 → Mem → Prop) (h : PX10_put a0 x1 x2 M K) : Met l yX10_put (.code yX10_put cX10_put 3 (some .int) :: gtbl) ({ frames := 6, cells := 0, slots := 0, locals := 150 } : Room) (va_Pc [.ref a0, .int x1, .int x2] (xB z D cA M)) (va_Qi K (xWd z D cA) (xA z)) 0 0 (xA z) := by
  refine x_met (by decide +kernel) (Nat.le_of_ble_eq_true rfl) (L0 := [(0, .ref a0), (1, .int x1), (2, .int x2)]) rfl ?_
  intro p e s m args below meth c E hr hlk hnm
  have E : xE RX10 cX10_put 3 D cA p s m args c := E
  replace h := h.2
  refine x_aload_n E dX10_put_0 rfl 0 rfl ?_
  obtain ⟨hT, q1, hv, h⟩ := h
  refine x_get E flX10_21 dX10_put_1 hT hv ?_
  clear hT hv
  refine x_iload_n E dX10_put_4 rfl 1 rfl ?_
  refine x_callVi (T := TX2) (N := 4) (t := 3) (As := [.int x1]) E mlX10_113 inX2_has seX2_has rfl ⟨by decide, by decide⟩ (tX2_has h) (kX2_has l z D cA q1 x1 M _ h) rfl ⟨rfl, rfl⟩ ⟨Nat.le_of_ble_eq_true rfl, Nat.le_of_ble_eq_true rfl⟩ ⟨(Nat.le_of_ble_eq_true rfl), (Nat.le_of_ble_eq_true rfl)⟩ (Nat.le_of_ble_eq_true rfl) rfl dX10_put_5 (x_pure (fun r2 h => ?_))
  refine x_if_eq (tgt := 18) E dX10_put_8 (by decide) (fun c4 => ?_) (fun c4 => ?_)
  · replace h := xbr_t h c4
    clear c4
    refine x_sipush (v := (J (-1001))) E dX10_put_18 (by decide) ?_
    exact x_iret E hr hlk dX10_put_21 h
  · replace h := xbr_f h c4
    clear c4
    refine x_iload_n E dX10_put_11 rfl 2 rfl ?_
    refine x_callSi (As := [.int x2]) E mlX10_151 rfl stX10_isReading (kX10_isReading l z D cA x2 M _ h) rfl ⟨rfl, rfl⟩ ⟨Nat.le_of_ble_eq_true rfl, Nat.le_of_ble_eq_true rfl⟩ ⟨(Nat.le_of_ble_eq_true rfl), (Nat.le_of_ble_eq_true rfl)⟩ (Nat.le_of_ble_eq_true rfl) rfl dX10_put_12 (x_pure (fun r5 h => ?_))
    refine x_if_ne (tgt := 22) E dX10_put_15 (by decide) (fun c7 => ?_) (fun c7 => ?_)
    · replace h := xbr_f h c7
      clear c7
      refine x_aload_n E dX10_put_22 rfl 0 rfl ?_
      obtain ⟨hT, q8, hv, h⟩ := h
      refine x_get E flX10_35 dX10_put_23 hT hv ?_
      clear hT hv
      refine x_iload_n E dX10_put_26 rfl 1 rfl ?_
      refine x_callVi (T := TX6) (N := 3) (t := 7) (As := [.int x1]) E mlX10_136 inX6_stands seX6_stands rfl ⟨by decide, by decide⟩ (tX6_stands h) (kX6_stands l z D cA q8 x1 M _ h) rfl ⟨rfl, rfl⟩ ⟨Nat.le_of_ble_eq_true rfl, Nat.le_of_ble_eq_true rfl⟩ ⟨(Nat.le_of_ble_eq_true rfl), (Nat.le_of_ble_eq_true rfl)⟩ (Nat.le_of_ble_eq_true rfl) rfl dX10_put_27 (x_pure (fun r9 h => ?_))
      refine x_if_ne (tgt := 42) E dX10_put_30 (by decide) (fun c11 => ?_) (fun c11 => ?_)
      · replace h := xbr_f h c11
        clear c11
        refine x_sipush (v := (J (-1003))) E dX10_put_42 (by decide) ?_
        exact x_iret E hr hlk dX10_put_45 h
      · replace h := xbr_t h c11
        clear c11
        refine x_aload_n E dX10_put_33 rfl 0 rfl ?_
        refine x_iload_n E dX10_put_34 rfl 1 rfl ?_
        refine x_iload_n E dX10_put_35 rfl 2 rfl ?_
        refine x_callVi (T := TX10) (N := 13) (t := 11) (As := [.int x1, .int x2]) E mlX10_197 inX10_putIfItGoes seX10_putIfItGoes rfl ⟨by decide, by decide⟩ (tX10_putIfItGoes h) (kX10_putIfItGoes l z D cA a0 x1 x2 M _ h) rfl ⟨rfl, rfl⟩ ⟨Nat.le_of_ble_eq_true rfl, Nat.le_of_ble_eq_true rfl⟩ ⟨(Nat.le_of_ble_eq_true rfl), (Nat.le_of_ble_eq_true rfl)⟩ (Nat.le_of_ble_eq_true rfl) rfl dX10_put_36 (fun r12 M13 h => ?_)
        refine x_if_ne (tgt := 46) E dX10_put_39 (by decide) (fun c14 => ?_) (fun c14 => ?_)
        · replace h := xbr_f h c14
          clear c14
          refine x_aload_n E dX10_put_46 rfl 0 rfl ?_
          obtain ⟨hT, q15, hv, h⟩ := h
          refine x_get E flX10_35 dX10_put_47 hT hv ?_
          clear hT hv
          refine x_iload_n E dX10_put_50 rfl 1 rfl ?_
          refine x_callVi (T := TX6) (N := 3) (t := 7) (As := [.int x1]) E mlX10_132 inX6_shelfOf seX6_shelfOf rfl ⟨by decide, by decide⟩ (tX6_shelfOf h) (kX6_shelfOf l z D cA q15 x1 M13 _ h) rfl ⟨rfl, rfl⟩ ⟨Nat.le_of_ble_eq_true rfl, Nat.le_of_ble_eq_true rfl⟩ ⟨(Nat.le_of_ble_eq_true rfl), (Nat.le_of_ble_eq_true rfl)⟩ (Nat.le_of_ble_eq_true rfl) rfl dX10_put_51 (x_pure (fun r16 h => ?_))
          exact x_iret E hr hlk dX10_put_54 h
        · replace h := xbr_t h c14
          clear c14
          refine x_sipush (v := (J (-1003))) E dX10_put_42 (by decide) ?_
          exact x_iret E hr hlk dX10_put_45 h
    · replace h := xbr_t h c7
      clear c7
      refine x_sipush (v := (J (-1001))) E dX10_put_18 (by decide) ?_
      exact x_iret E hr hlk dX10_put_21 h
theorem dX10_take_0 : decode cX10_take 0 = .ok (.aload_n 0, 1) := by decide +kernel
theorem dX10_take_1 : decode cX10_take 1 = .ok (.getfield 21, 3) := by decide +kernel
theorem dX10_take_4 : decode cX10_take 4 = .ok (.iload_n 1, 1) := by decide +kernel
theorem dX10_take_5 : decode cX10_take 5 = .ok (.invokevirtual 113, 3) := by decide +kernel
theorem dX10_take_8 : decode cX10_take 8 = .ok (.ifCond .ne 7, 3) := by decide +kernel
theorem dX10_take_11 : decode cX10_take 11 = .ok (.sipush (-1001), 3) := by decide +kernel
theorem dX10_take_14 : decode cX10_take 14 = .ok (.ireturn, 1) := by decide +kernel
theorem dX10_take_15 : decode cX10_take 15 = .ok (.aload_n 0, 1) := by decide +kernel
theorem dX10_take_16 : decode cX10_take 16 = .ok (.getfield 35, 3) := by decide +kernel
theorem dX10_take_19 : decode cX10_take 19 = .ok (.iload_n 1, 1) := by decide +kernel
theorem dX10_take_20 : decode cX10_take 20 = .ok (.invokevirtual 136, 3) := by decide +kernel
theorem dX10_take_23 : decode cX10_take 23 = .ok (.ifCond .ne 7, 3) := by decide +kernel
theorem dX10_take_26 : decode cX10_take 26 = .ok (.sipush (-1003), 3) := by decide +kernel
theorem dX10_take_29 : decode cX10_take 29 = .ok (.ireturn, 1) := by decide +kernel
theorem dX10_take_30 : decode cX10_take 30 = .ok (.aload_n 0, 1) := by decide +kernel
theorem dX10_take_31 : decode cX10_take 31 = .ok (.getfield 35, 3) := by decide +kernel
theorem dX10_take_34 : decode cX10_take 34 = .ok (.iload_n 1, 1) := by decide +kernel
theorem dX10_take_35 : decode cX10_take 35 = .ok (.invokevirtual 132, 3) := by decide +kernel
theorem dX10_take_38 : decode cX10_take 38 = .ok (.istore_n 2, 1) := by decide +kernel
theorem dX10_take_39 : decode cX10_take 39 = .ok (.aload_n 0, 1) := by decide +kernel
theorem dX10_take_40 : decode cX10_take 40 = .ok (.getfield 35, 3) := by decide +kernel
theorem dX10_take_43 : decode cX10_take 43 = .ok (.iload_n 1, 1) := by decide +kernel
theorem dX10_take_44 : decode cX10_take 44 = .ok (.invokevirtual 201, 3) := by decide +kernel
theorem dX10_take_47 : decode cX10_take 47 = .ok (.iload_n 2, 1) := by decide +kernel
theorem dX10_take_48 : decode cX10_take 48 = .ok (.ireturn, 1) := by decide +kernel
set_option maxHeartbeats 4000000 in
set_option maxRecDepth 100000 in
theorem kX10_take (l : Launch) (z : Nat) (D : va_G) (cA : Nat → ClassId) (a0 : Nat) (x1 : Int32) (M : Mem) (K : Int32 → Mem → Prop) (h : PX10_take a0 x1 M K) : Met l yX10_take (.code yX10_take cX10_take 3 (some .int) :: gtbl) ({ frames := 3, cells := 0, slots := 0, locals := 66 } : Room) (va_Pc [.ref a0, .int x1] (xB z D cA M)) (va_Qi K (xWd z D cA) (xA z)) 0 0 (xA z) := by
  refine x_met (by decide +kernel) (Nat.le_of_ble_eq_true rfl) (L0 := [(0, .ref a0), (1, .int x1)]) rfl ?_
  intro p e s m args below meth c E hr hlk hnm
  have E : xE RX10 cX10_take 3 D cA p s m args c := E
  replace h := h.2
  refine x_aload_n E dX10_take_0 rfl 0 rfl ?_
  obtain ⟨hT, q1, hv, h⟩ := h
  refine x_get E flX10_21 dX10_take_1 hT hv ?_
  clear hT hv
  refine x_iload_n E dX10_take_4 rfl 1 rfl ?_
  refine x_callVi (T := TX2) (N := 4) (t := 3) (As := [.int x1]) E mlX10_113 inX2_has seX2_has rfl ⟨by decide, by decide⟩ (tX2_has h) (kX2_has l z D cA q1 x1 M _ h) rfl ⟨rfl, rfl⟩ ⟨Nat.le_of_ble_eq_true rfl, Nat.le_of_ble_eq_true rfl⟩ ⟨(Nat.le_of_ble_eq_true rfl), (Nat.le_of_ble_eq_true rfl)⟩ (Nat.le_of_ble_eq_true rfl) rfl dX10_take_5 (x_pure (fun r2 h => ?_))
  refine x_if_ne (tgt := 15) E dX10_take_8 (by decide) (fun c4 => ?_) (fun c4 => ?_)
  · replace h := xbr_f h c4
    clear c4
    refine x_aload_n E dX10_take_15 rfl 0 rfl ?_
    obtain ⟨hT, q5, hv, h⟩ := h
    refine x_get E flX10_35 dX10_take_16 hT hv ?_
    clear hT hv
    refine x_iload_n E dX10_take_19 rfl 1 rfl ?_
    refine x_callVi (T := TX6) (N := 3) (t := 7) (As := [.int x1]) E mlX10_136 inX6_stands seX6_stands rfl ⟨by decide, by decide⟩ (tX6_stands h) (kX6_stands l z D cA q5 x1 M _ h) rfl ⟨rfl, rfl⟩ ⟨Nat.le_of_ble_eq_true rfl, Nat.le_of_ble_eq_true rfl⟩ ⟨(Nat.le_of_ble_eq_true rfl), (Nat.le_of_ble_eq_true rfl)⟩ (Nat.le_of_ble_eq_true rfl) rfl dX10_take_20 (x_pure (fun r6 h => ?_))
    refine x_if_ne (tgt := 30) E dX10_take_23 (by decide) (fun c8 => ?_) (fun c8 => ?_)
    · replace h := xbr_f h c8
      clear c8
      refine x_aload_n E dX10_take_30 rfl 0 rfl ?_
      obtain ⟨hT, q9, hv, h⟩ := h
      refine x_get E flX10_35 dX10_take_31 hT hv ?_
      clear hT hv
      refine x_iload_n E dX10_take_34 rfl 1 rfl ?_
      refine x_callVi (T := TX6) (N := 3) (t := 7) (As := [.int x1]) E mlX10_132 inX6_shelfOf seX6_shelfOf rfl ⟨by decide, by decide⟩ (tX6_shelfOf h) (kX6_shelfOf l z D cA q9 x1 M _ h) rfl ⟨rfl, rfl⟩ ⟨Nat.le_of_ble_eq_true rfl, Nat.le_of_ble_eq_true rfl⟩ ⟨(Nat.le_of_ble_eq_true rfl), (Nat.le_of_ble_eq_true rfl)⟩ (Nat.le_of_ble_eq_true rfl) rfl dX10_take_35 (x_pure (fun r10 h => ?_))
      refine x_istore_n (L' := [(2, .int r10), (0, .ref a0), (1, .int x1)]) E dX10_take_38 rfl (by decide) rfl ?_
      refine x_aload_n E dX10_take_39 rfl 1 rfl ?_
      obtain ⟨hT, q12, hv, h⟩ := h
      refine x_get E flX10_35 dX10_take_40 hT hv ?_
      clear hT hv
      refine x_iload_n E dX10_take_43 rfl 2 rfl ?_
      refine x_callVv (T := TX6) (N := 3) (t := 7) (As := [.int x1]) E mlX10_201 inX6_remove seX6_remove rfl ⟨by decide, by decide⟩ (tX6_remove h) (kX6_remove l z D cA q12 x1 M _ h) rfl ⟨rfl, rfl⟩ ⟨Nat.le_of_ble_eq_true rfl, Nat.le_of_ble_eq_true rfl⟩ ⟨(Nat.le_of_ble_eq_true rfl), (Nat.le_of_ble_eq_true rfl)⟩ (Nat.le_of_ble_eq_true rfl) rfl dX10_take_44 (fun M14 h => ?_)
      refine x_iload_n E dX10_take_47 rfl 0 rfl ?_
      exact x_iret E hr hlk dX10_take_48 h
    · replace h := xbr_t h c8
      clear c8
      refine x_sipush (v := (J (-1003))) E dX10_take_26 (by decide) ?_
      exact x_iret E hr hlk dX10_take_29 h
  · replace h := xbr_t h c4
    clear c4
    refine x_sipush (v := (J (-1001))) E dX10_take_11 (by decide) ?_
    exact x_iret E hr hlk dX10_take_14 h
theorem dX10_wrong_0 : decode cX10_wrong 0 = .ok (.aload_n 0, 1) := by decide +kernel
theorem dX10_wrong_1 : decode cX10_wrong 1 = .ok (.getfield 45, 3) := by decide +kernel
theorem dX10_wrong_4 : decode cX10_wrong 4 = .ok (.aload_n 0, 1) := by decide +kernel
theorem dX10_wrong_5 : decode cX10_wrong 5 = .ok (.getfield 35, 3) := by decide +kernel
theorem dX10_wrong_8 : decode cX10_wrong 8 = .ok (.aload_n 0, 1) := by decide +kernel
theorem dX10_wrong_9 : decode cX10_wrong 9 = .ok (.getfield 21, 3) := by decide +kernel
theorem dX10_wrong_12 : decode cX10_wrong 12 = .ok (.invokevirtual 204, 3) := by decide +kernel
theorem dX10_wrong_15 : decode cX10_wrong 15 = .ok (.ireturn, 1) := by decide +kernel
set_option maxHeartbeats 4000000 in
set_option maxRecDepth 100000 in
theorem kX10_wrong (l : Launch) (z : Nat) (D : va_G) (cA : Nat → ClassId) (a0 : Nat) (M : Mem) (K : Int32 → Mem → Prop) (h : PX10_wrong a0 M K) : Met l yX10_wrong (.code yX10_wrong cX10_wrong 1 (some .int) :: gtbl) ({ frames := 5, cells := 0, slots := 0, locals := 124 } : Room) (va_Pc [.ref a0] (xB z D cA M)) (va_Qi K (xWd z D cA) (xA z)) 0 0 (xA z) := by
  refine x_met (by decide +kernel) (Nat.le_of_ble_eq_true rfl) (L0 := [(0, .ref a0)]) rfl ?_
  intro p e s m args below meth c E hr hlk hnm
  have E : xE RX10 cX10_wrong 1 D cA p s m args c := E
  replace h := h.2
  refine x_aload_n E dX10_wrong_0 rfl 0 rfl ?_
  obtain ⟨hT, q1, hv, h⟩ := h
  refine x_get E flX10_45 dX10_wrong_1 hT hv ?_
  clear hT hv
  refine x_aload_n E dX10_wrong_4 rfl 0 rfl ?_
  obtain ⟨hT, q2, hv, h⟩ := h
  refine x_get E flX10_35 dX10_wrong_5 hT hv ?_
  clear hT hv
  refine x_aload_n E dX10_wrong_8 rfl 0 rfl ?_
  obtain ⟨hT, q3, hv, h⟩ := h
  refine x_get E flX10_21 dX10_wrong_9 hT hv ?_
  clear hT hv
  refine x_callVi (T := TX9) (N := 1) (t := 10) (As := [.ref q2, .ref q3]) E mlX10_204 inX9_outOfPlace seX9_outOfPlace rfl ⟨by decide, by decide⟩ (tX9_outOfPlace h) (kX9_outOfPlace l z D cA q1 q2 q3 M _ h) rfl ⟨rfl, rfl⟩ ⟨Nat.le_of_ble_eq_true rfl, Nat.le_of_ble_eq_true rfl⟩ ⟨(Nat.le_of_ble_eq_true rfl), (Nat.le_of_ble_eq_true rfl)⟩ (Nat.le_of_ble_eq_true rfl) rfl dX10_wrong_12 (fun r4 M5 h => ?_)
  exact x_iret E hr hlk dX10_wrong_15 h
theorem dX10_tidy_0 : decode cX10_tidy 0 = .ok (.iload_n 1, 1) := by decide +kernel
theorem dX10_tidy_1 : decode cX10_tidy 1 = .ok (.lookupswitch 59 #[(0, 27), (1, 43)], 27) := by decide +kernel
theorem dX10_tidy_28 : decode cX10_tidy 28 = .ok (.aload_n 0, 1) := by decide +kernel
theorem dX10_tidy_29 : decode cX10_tidy 29 = .ok (.getfield 45, 3) := by decide +kernel
theorem dX10_tidy_32 : decode cX10_tidy 32 = .ok (.aload_n 0, 1) := by decide +kernel
theorem dX10_tidy_33 : decode cX10_tidy 33 = .ok (.getfield 35, 3) := by decide +kernel
theorem dX10_tidy_36 : decode cX10_tidy 36 = .ok (.aload_n 0, 1) := by decide +kernel
theorem dX10_tidy_37 : decode cX10_tidy 37 = .ok (.getfield 21, 3) := by decide +kernel
theorem dX10_tidy_40 : decode cX10_tidy 40 = .ok (.invokevirtual 208, 3) := by decide +kernel
theorem dX10_tidy_43 : decode cX10_tidy 43 = .ok (.ireturn, 1) := by decide +kernel
theorem dX10_tidy_44 : decode cX10_tidy 44 = .ok (.aload_n 0, 1) := by decide +kernel
theorem dX10_tidy_45 : decode cX10_tidy 45 = .ok (.getfield 45, 3) := by decide +kernel
theorem dX10_tidy_48 : decode cX10_tidy 48 = .ok (.aload_n 0, 1) := by decide +kernel
theorem dX10_tidy_49 : decode cX10_tidy 49 = .ok (.getfield 35, 3) := by decide +kernel
theorem dX10_tidy_52 : decode cX10_tidy 52 = .ok (.aload_n 0, 1) := by decide +kernel
theorem dX10_tidy_53 : decode cX10_tidy 53 = .ok (.getfield 21, 3) := by decide +kernel
theorem dX10_tidy_56 : decode cX10_tidy 56 = .ok (.invokevirtual 211, 3) := by decide +kernel
theorem dX10_tidy_59 : decode cX10_tidy 59 = .ok (.ireturn, 1) := by decide +kernel
theorem dX10_tidy_60 : decode cX10_tidy 60 = .ok (.sipush (-1002), 3) := by decide +kernel
theorem dX10_tidy_63 : decode cX10_tidy 63 = .ok (.ireturn, 1) := by decide +kernel
set_option maxHeartbeats 4000000 in
set_option maxRecDepth 100000 in
theorem kX10_tidy (l : Launch) (z : Nat) (D : va_G) (cA : Nat → ClassId) (a0 : Nat) (x1 : Int32) (M : Mem) (K : Int32 → Prop) (h : PX10_tidy a0 x1 M K) : Met l yX10_tidy (.code yX10_tidy cX10_tidy 2 (some .int) :: gtbl) ({ frames := 4, cells := 0, slots := 0, locals := 96 } : Room) (va_Pc [.ref a0, .int x1] (xB z D cA M)) (va_Qi (fun r M1 => M1 = M ∧ K r) (xWd z D cA) (xA z)) 0 0 (xA z) := by
  refine x_met (by decide +kernel) (Nat.le_of_ble_eq_true rfl) (L0 := [(0, .ref a0), (1, .int x1)]) rfl ?_
  intro p e s m args below meth c E hr hlk hnm
  have E : xE RX10 cX10_tidy 2 D cA p s m args c := E
  replace h := h.2
  refine x_iload_n E dX10_tidy_0 rfl 1 rfl ?_
  by_cases c1 : x1 = (J 0)
  · replace h := xbr_t h c1
    refine x_lookup (off := 27) (tgt := 28) E dX10_tidy_1 (by decide) (by rw [c1]; decide) (by decide) ?_
    refine x_aload_n E dX10_tidy_28 rfl 0 rfl ?_
    obtain ⟨hT, q2, hv, h⟩ := h
    refine x_get E flX10_45 dX10_tidy_29 hT hv ?_
    clear hT hv
    refine x_aload_n E dX10_tidy_32 rfl 0 rfl ?_
    obtain ⟨hT, q3, hv, h⟩ := h
    refine x_get E flX10_35 dX10_tidy_33 hT hv ?_
    clear hT hv
    refine x_aload_n E dX10_tidy_36 rfl 0 rfl ?_
    obtain ⟨hT, q4, hv, h⟩ := h
    refine x_get E flX10_21 dX10_tidy_37 hT hv ?_
    clear hT hv
    refine x_callVi (T := TX9) (N := 1) (t := 10) (As := [.ref q3, .ref q4]) E mlX10_208 inX9_pairs seX9_pairs rfl ⟨by decide, by decide⟩ (tX9_pairs h) (kX9_pairs l z D cA q2 q3 q4 M _ h) rfl ⟨rfl, rfl⟩ ⟨Nat.le_of_ble_eq_true rfl, Nat.le_of_ble_eq_true rfl⟩ ⟨(Nat.le_of_ble_eq_true rfl), (Nat.le_of_ble_eq_true rfl)⟩ (Nat.le_of_ble_eq_true rfl) rfl dX10_tidy_40 (x_pure (fun r5 h => ?_))
    exact x_iret E hr hlk dX10_tidy_43 ⟨rfl, h⟩
  replace h := xbr_f h c1
  by_cases c7 : x1 = (J 1)
  · replace h := xbr_t h c7
    refine x_lookup (off := 43) (tgt := 44) E dX10_tidy_1 (by decide) (by rw [c7]; decide) (by decide) ?_
    refine x_aload_n E dX10_tidy_44 rfl 0 rfl ?_
    obtain ⟨hT, q8, hv, h⟩ := h
    refine x_get E flX10_45 dX10_tidy_45 hT hv ?_
    clear hT hv
    refine x_aload_n E dX10_tidy_48 rfl 0 rfl ?_
    obtain ⟨hT, q9, hv, h⟩ := h
    refine x_get E flX10_35 dX10_tidy_49 hT hv ?_
    clear hT hv
    refine x_aload_n E dX10_tidy_52 rfl 0 rfl ?_
    obtain ⟨hT, q10, hv, h⟩ := h
    refine x_get E flX10_21 dX10_tidy_53 hT hv ?_
    clear hT hv
    refine x_callVi (T := TX9) (N := 1) (t := 10) (As := [.ref q9, .ref q10]) E mlX10_211 inX9_firstWrong seX9_firstWrong rfl ⟨by decide, by decide⟩ (tX9_firstWrong h) (kX9_firstWrong l z D cA q8 q9 q10 M _ h) rfl ⟨rfl, rfl⟩ ⟨Nat.le_of_ble_eq_true rfl, Nat.le_of_ble_eq_true rfl⟩ ⟨(Nat.le_of_ble_eq_true rfl), (Nat.le_of_ble_eq_true rfl)⟩ (Nat.le_of_ble_eq_true rfl) rfl dX10_tidy_56 (x_pure (fun r11 h => ?_))
    exact x_iret E hr hlk dX10_tidy_59 ⟨rfl, h⟩
  replace h := xbr_f h c7
  refine x_lookup (off := 59) (tgt := 60) E dX10_tidy_1 (by decide) ((lv_osw c1 (by decide)).trans ((lv_osw c7 (by decide)).trans rfl)) (by decide) ?_
  clear c1 c7
  refine x_sipush (v := (J (-1002))) E dX10_tidy_60 (by decide) ?_
  exact x_iret E hr hlk dX10_tidy_63 ⟨rfl, h⟩
theorem dX10_mend_0 : decode cX10_mend 0 = .ok (.aload_n 0, 1) := by decide +kernel
theorem dX10_mend_1 : decode cX10_mend 1 = .ok (.getfield 45, 3) := by decide +kernel
theorem dX10_mend_4 : decode cX10_mend 4 = .ok (.aload_n 0, 1) := by decide +kernel
theorem dX10_mend_5 : decode cX10_mend 5 = .ok (.getfield 35, 3) := by decide +kernel
theorem dX10_mend_8 : decode cX10_mend 8 = .ok (.aload_n 0, 1) := by decide +kernel
theorem dX10_mend_9 : decode cX10_mend 9 = .ok (.getfield 21, 3) := by decide +kernel
theorem dX10_mend_12 : decode cX10_mend 12 = .ok (.invokevirtual 204, 3) := by decide +kernel
theorem dX10_mend_15 : decode cX10_mend 15 = .ok (.istore_n 1, 1) := by decide +kernel
theorem dX10_mend_16 : decode cX10_mend 16 = .ok (.aload_n 0, 1) := by decide +kernel
theorem dX10_mend_17 : decode cX10_mend 17 = .ok (.getfield 39, 3) := by decide +kernel
theorem dX10_mend_20 : decode cX10_mend 20 = .ok (.aload_n 0, 1) := by decide +kernel
theorem dX10_mend_21 : decode cX10_mend 21 = .ok (.getfield 35, 3) := by decide +kernel
theorem dX10_mend_24 : decode cX10_mend 24 = .ok (.invokevirtual 214, 3) := by decide +kernel
theorem dX10_mend_27 : decode cX10_mend 27 = .ok (.iconst 0, 1) := by decide +kernel
theorem dX10_mend_28 : decode cX10_mend 28 = .ok (.istore_n 2, 1) := by decide +kernel
theorem dX10_mend_29 : decode cX10_mend 29 = .ok (.iload_n 2, 1) := by decide +kernel
theorem dX10_mend_30 : decode cX10_mend 30 = .ok (.bipush 24, 2) := by decide +kernel
theorem dX10_mend_32 : decode cX10_mend 32 = .ok (.if_icmp .ge 25, 3) := by decide +kernel
theorem dX10_mend_35 : decode cX10_mend 35 = .ok (.iload_n 1, 1) := by decide +kernel
theorem dX10_mend_36 : decode cX10_mend 36 = .ok (.iload_n 2, 1) := by decide +kernel
theorem dX10_mend_37 : decode cX10_mend 37 = .ok (.invokestatic 218, 3) := by decide +kernel
theorem dX10_mend_40 : decode cX10_mend 40 = .ok (.ifCond .eq 11, 3) := by decide +kernel
theorem dX10_mend_43 : decode cX10_mend 43 = .ok (.aload_n 0, 1) := by decide +kernel
theorem dX10_mend_44 : decode cX10_mend 44 = .ok (.getfield 39, 3) := by decide +kernel
theorem dX10_mend_47 : decode cX10_mend 47 = .ok (.iload_n 2, 1) := by decide +kernel
theorem dX10_mend_48 : decode cX10_mend 48 = .ok (.invokevirtual 201, 3) := by decide +kernel
theorem dX10_mend_51 : decode cX10_mend 51 = .ok (.iinc 2 1, 3) := by decide +kernel
theorem dX10_mend_54 : decode cX10_mend 54 = .ok (.goto (-25), 3) := by decide +kernel
theorem dX10_mend_57 : decode cX10_mend 57 = .ok (.iconst 0, 1) := by decide +kernel
theorem dX10_mend_58 : decode cX10_mend 58 = .ok (.istore_n 2, 1) := by decide +kernel
theorem dX10_mend_59 : decode cX10_mend 59 = .ok (.iload_n 2, 1) := by decide +kernel
theorem dX10_mend_60 : decode cX10_mend 60 = .ok (.bipush 24, 2) := by decide +kernel
theorem dX10_mend_62 : decode cX10_mend 62 = .ok (.if_icmp .ge 41, 3) := by decide +kernel
theorem dX10_mend_65 : decode cX10_mend 65 = .ok (.iload_n 1, 1) := by decide +kernel
theorem dX10_mend_66 : decode cX10_mend 66 = .ok (.iload_n 2, 1) := by decide +kernel
theorem dX10_mend_67 : decode cX10_mend 67 = .ok (.invokestatic 218, 3) := by decide +kernel
theorem dX10_mend_70 : decode cX10_mend 70 = .ok (.ifCond .eq 27, 3) := by decide +kernel
theorem dX10_mend_73 : decode cX10_mend 73 = .ok (.aload_n 0, 1) := by decide +kernel
theorem dX10_mend_74 : decode cX10_mend 74 = .ok (.getfield 28, 3) := by decide +kernel
theorem dX10_mend_77 : decode cX10_mend 77 = .ok (.aload_n 0, 1) := by decide +kernel
theorem dX10_mend_78 : decode cX10_mend 78 = .ok (.getfield 39, 3) := by decide +kernel
theorem dX10_mend_81 : decode cX10_mend 81 = .ok (.aload_n 0, 1) := by decide +kernel
theorem dX10_mend_82 : decode cX10_mend 82 = .ok (.getfield 21, 3) := by decide +kernel
theorem dX10_mend_85 : decode cX10_mend 85 = .ok (.iload_n 2, 1) := by decide +kernel
theorem dX10_mend_86 : decode cX10_mend 86 = .ok (.iconst 0, 1) := by decide +kernel
theorem dX10_mend_87 : decode cX10_mend 87 = .ok (.invokevirtual 221, 3) := by decide +kernel
theorem dX10_mend_90 : decode cX10_mend 90 = .ok (.ifCond .ne 7, 3) := by decide +kernel
theorem dX10_mend_93 : decode cX10_mend 93 = .ok (.sipush (-1003), 3) := by decide +kernel
theorem dX10_mend_96 : decode cX10_mend 96 = .ok (.ireturn, 1) := by decide +kernel
theorem dX10_mend_97 : decode cX10_mend 97 = .ok (.iinc 2 1, 3) := by decide +kernel
theorem dX10_mend_100 : decode cX10_mend 100 = .ok (.goto (-41), 3) := by decide +kernel
theorem dX10_mend_103 : decode cX10_mend 103 = .ok (.aload_n 0, 1) := by decide +kernel
theorem dX10_mend_104 : decode cX10_mend 104 = .ok (.getfield 35, 3) := by decide +kernel
theorem dX10_mend_107 : decode cX10_mend 107 = .ok (.aload_n 0, 1) := by decide +kernel
theorem dX10_mend_108 : decode cX10_mend 108 = .ok (.getfield 39, 3) := by decide +kernel
theorem dX10_mend_111 : decode cX10_mend 111 = .ok (.invokevirtual 214, 3) := by decide +kernel
theorem dX10_mend_114 : decode cX10_mend 114 = .ok (.iload_n 1, 1) := by decide +kernel
theorem dX10_mend_115 : decode cX10_mend 115 = .ok (.invokestatic 171, 3) := by decide +kernel
theorem dX10_mend_118 : decode cX10_mend 118 = .ok (.ireturn, 1) := by decide +kernel
set_option maxHeartbeats 4000000 in
set_option maxRecDepth 100000 in
theorem kX10_mend (l : Launch) (z : Nat) (D : va_G) (cA : Nat → ClassId) (a0 : Nat) (M : Mem) (K : Int32 → Mem → Prop) (h : PX10_mend a0 M K) : Met l yX10_mend (.code yX10_mend cX10_mend 3 (some .int) :: gtbl) ({ frames := 5, cells := 0, slots := 0, locals := 128 } : Room) (va_Pc [.ref a0] (xB z D cA M)) (va_Qi K (xWd z D cA) (xA z)) 0 0 (xA z) := by
  refine x_met (by decide +kernel) (Nat.le_of_ble_eq_true rfl) (L0 := [(0, .ref a0)]) rfl ?_
  intro p e s m args below meth c E hr hlk hnm
  have E : xE RX10 cX10_mend 3 D cA p s m args c := E
  replace h := h.2
  refine x_aload_n E dX10_mend_0 rfl 0 rfl ?_
  obtain ⟨hT, q1, hv, h⟩ := h
  refine x_get E flX10_45 dX10_mend_1 hT hv ?_
  clear hT hv
  refine x_aload_n E dX10_mend_4 rfl 0 rfl ?_
  obtain ⟨hT, q2, hv, h⟩ := h
  refine x_get E flX10_35 dX10_mend_5 hT hv ?_
  clear hT hv
  refine x_aload_n E dX10_mend_8 rfl 0 rfl ?_
  obtain ⟨hT, q3, hv, h⟩ := h
  refine x_get E flX10_21 dX10_mend_9 hT hv ?_
  clear hT hv
  refine x_callVi (T := TX9) (N := 1) (t := 10) (As := [.ref q2, .ref q3]) E mlX10_204 inX9_outOfPlace seX9_outOfPlace rfl ⟨by decide, by decide⟩ (tX9_outOfPlace h) (kX9_outOfPlace l z D cA q1 q2 q3 M _ h) rfl ⟨rfl, rfl⟩ ⟨Nat.le_of_ble_eq_true rfl, Nat.le_of_ble_eq_true rfl⟩ ⟨(Nat.le_of_ble_eq_true rfl), (Nat.le_of_ble_eq_true rfl)⟩ (Nat.le_of_ble_eq_true rfl) rfl dX10_mend_12 (fun r4 M5 h => ?_)
  refine x_istore_n (L' := [(1, .int r4), (0, .ref a0)]) E dX10_mend_15 rfl (by decide) rfl ?_
  refine x_aload_n E dX10_mend_16 rfl 1 rfl ?_
  obtain ⟨hT, q6, hv, h⟩ := h
  refine x_get E flX10_39 dX10_mend_17 hT hv ?_
  clear hT hv
  refine x_aload_n E dX10_mend_20 rfl 1 rfl ?_
  obtain ⟨hT, q7, hv, h⟩ := h
  refine x_get E flX10_35 dX10_mend_21 hT hv ?_
  clear hT hv
  refine x_callVv (T := TX6) (N := 3) (t := 7) (As := [.ref q7]) E mlX10_214 inX6_copyFrom seX6_copyFrom rfl ⟨by decide, by decide⟩ (tX6_copyFrom h) (kX6_copyFrom l z D cA q6 q7 M5 _ h) rfl ⟨rfl, rfl⟩ ⟨Nat.le_of_ble_eq_true rfl, Nat.le_of_ble_eq_true rfl⟩ ⟨(Nat.le_of_ble_eq_true rfl), (Nat.le_of_ble_eq_true rfl)⟩ (Nat.le_of_ble_eq_true rfl) rfl dX10_mend_24 (fun M9 h => ?_)
  refine x_iconst (v := (J 0)) E dX10_mend_27 (by decide) ?_
  refine x_istore_n (L' := [(2, .int (J 0)), (1, .int r4), (0, .ref a0)]) E dX10_mend_28 rfl (by decide) rfl ?_
  refine x_sub (L' := [(0, .ref a0), (1, .int r4), (2, .int (J 0))]) [2, 1, 0] rfl ?_
  refine lp_sound (T := fun sv => xG p l e ({ frames := 5, cells := 0, slots := 0, locals := 128 } : Room) s m args below meth c (MQ below (va_Qi K (xWd z D cA) (xA z)) args s 0 0 (xA z)) 3 z D cA sv.1 (0) (0) 29 [(0, .ref a0), (1, .int r4), (2, .int sv.2)] []) ?_ (M9, (J 0)) h
  clear h
  intro kc29 hk29 sv h
  obtain ⟨M, x2⟩ := sv
  replace h : CX10_mend_29 K a0 r4 kc29 M x2 := h
  try dsimp only
  refine x_iload_n E dX10_mend_29 rfl 2 rfl ?_
  refine x_bipush (v := (J 24)) E dX10_mend_30 (by decide) ?_
  refine x_icmp_ge (tgt := 57) E dX10_mend_32 (by decide) (fun c10 => ?_) (fun c10 => ?_)
  · replace h := xbr_t h c10
    clear c10
    refine x_iconst (v := (J 0)) E dX10_mend_57 (by decide) ?_
    refine x_istore_n (L' := [(2, .int (J 0)), (0, .ref a0), (1, .int r4)]) E dX10_mend_58 rfl (by decide) rfl ?_
    refine x_sub (L' := [(0, .ref a0), (1, .int r4), (2, .int (J 0))]) [1, 2, 0] rfl ?_
    refine lp_sound (T := fun sv => xG p l e ({ frames := 5, cells := 0, slots := 0, locals := 128 } : Room) s m args below meth c (MQ below (va_Qi K (xWd z D cA) (xA z)) args s 0 0 (xA z)) 3 z D cA sv.1 (0) (0) 59 [(0, .ref a0), (1, .int r4), (2, .int sv.2)] []) ?_ (M, (J 0)) h
    clear h
    intro kc59 hk59 sv h
    obtain ⟨M, x2⟩ := sv
    replace h : CX10_mend_59 K a0 r4 kc59 M x2 := h
    try dsimp only
    refine x_iload_n E dX10_mend_59 rfl 2 rfl ?_
    refine x_bipush (v := (J 24)) E dX10_mend_60 (by decide) ?_
    refine x_icmp_ge (tgt := 103) E dX10_mend_62 (by decide) (fun c11 => ?_) (fun c11 => ?_)
    · replace h := xbr_t h c11
      clear c11
      refine x_aload_n E dX10_mend_103 rfl 0 rfl ?_
      obtain ⟨hT, q12, hv, h⟩ := h
      refine x_get E flX10_35 dX10_mend_104 hT hv ?_
      clear hT hv
      refine x_aload_n E dX10_mend_107 rfl 0 rfl ?_
      obtain ⟨hT, q13, hv, h⟩ := h
      refine x_get E flX10_39 dX10_mend_108 hT hv ?_
      clear hT hv
      refine x_callVv (T := TX6) (N := 3) (t := 7) (As := [.ref q13]) E mlX10_214 inX6_copyFrom seX6_copyFrom rfl ⟨by decide, by decide⟩ (tX6_copyFrom h) (kX6_copyFrom l z D cA q12 q13 M _ h) rfl ⟨rfl, rfl⟩ ⟨Nat.le_of_ble_eq_true rfl, Nat.le_of_ble_eq_true rfl⟩ ⟨(Nat.le_of_ble_eq_true rfl), (Nat.le_of_ble_eq_true rfl)⟩ (Nat.le_of_ble_eq_true rfl) rfl dX10_mend_111 (fun M15 h => ?_)
      refine x_iload_n E dX10_mend_114 rfl 1 rfl ?_
      refine x_callSJ (As := [.int r4]) E mlX10_171 stJ6_bitCount_0f7a4 (kJ6_bitCount_0f7a4 l z D cA r4 M15 _ h) rfl ⟨rfl, rfl⟩ ⟨Nat.le_of_ble_eq_true rfl, Nat.le_of_ble_eq_true rfl⟩ ⟨(Nat.le_of_ble_eq_true rfl), (Nat.le_of_ble_eq_true rfl)⟩ (Nat.le_of_ble_eq_true rfl) rfl dX10_mend_115 (x_pure (fun r16 h => ?_))
      exact x_iret E hr hlk dX10_mend_118 h
    · replace h := xbr_f h c11
      clear c11
      refine x_iload_n E dX10_mend_65 rfl 1 rfl ?_
      refine x_iload_n E dX10_mend_66 rfl 2 rfl ?_
      refine x_callSi (As := [.int r4, .int x2]) E mlX10_218 rfl stX10_isIn (kX10_isIn l z D cA r4 x2 M _ h) rfl ⟨rfl, rfl⟩ ⟨Nat.le_of_ble_eq_true rfl, Nat.le_of_ble_eq_true rfl⟩ ⟨(Nat.le_of_ble_eq_true rfl), (Nat.le_of_ble_eq_true rfl)⟩ (Nat.le_of_ble_eq_true rfl) rfl dX10_mend_67 (x_pure (fun r18 h => ?_))
      refine x_if_eq (tgt := 97) E dX10_mend_70 (by decide) (fun c20 => ?_) (fun c20 => ?_)
      · replace h := xbr_t h c20
        clear c20
        refine x_iinc (v := (x2 + (J 1))) (L' := [(2, .int (x2 + (J 1))), (0, .ref a0), (1, .int r4)]) E dX10_mend_97 2 rfl rfl (by decide) rfl ?_
        refine x_goto (tgt := 59) E dX10_mend_100 (by decide) ?_
        refine x_sub (L' := [(0, .ref a0), (1, .int r4), (2, .int (x2 + (J 1)))]) [1, 2, 0] rfl ?_
        exact hk59 (M, (x2 + (J 1))) h
      · replace h := xbr_f h c20
        clear c20
        refine x_aload_n E dX10_mend_73 rfl 0 rfl ?_
        obtain ⟨hT, q21, hv, h⟩ := h
        refine x_get E flX10_28 dX10_mend_74 hT hv ?_
        clear hT hv
        refine x_aload_n E dX10_mend_77 rfl 0 rfl ?_
        obtain ⟨hT, q22, hv, h⟩ := h
        refine x_get E flX10_39 dX10_mend_78 hT hv ?_
        clear hT hv
        refine x_aload_n E dX10_mend_81 rfl 0 rfl ?_
        obtain ⟨hT, q23, hv, h⟩ := h
        refine x_get E flX10_21 dX10_mend_82 hT hv ?_
        clear hT hv
        refine x_iload_n E dX10_mend_85 rfl 2 rfl ?_
        refine x_iconst (v := (J 0)) E dX10_mend_86 (by decide) ?_
        refine x_callVi (T := TX8) (N := 1) (t := 9) (As := [.ref q22, .ref q23, .int x2, .int (J 0)]) E mlX10_221 inX8_putBy seX8_putBy rfl ⟨by decide, by decide⟩ (tX8_putBy h) (kX8_putBy l z D cA q21 q22 q23 x2 (J 0) M _ h) rfl ⟨rfl, rfl⟩ ⟨Nat.le_of_ble_eq_true rfl, Nat.le_of_ble_eq_true rfl⟩ ⟨(Nat.le_of_ble_eq_true rfl), (Nat.le_of_ble_eq_true rfl)⟩ (Nat.le_of_ble_eq_true rfl) rfl dX10_mend_87 (fun r24 M25 h => ?_)
        refine x_if_ne (tgt := 97) E dX10_mend_90 (by decide) (fun c26 => ?_) (fun c26 => ?_)
        · replace h := xbr_f h c26
          clear c26
          refine x_iinc (v := (x2 + (J 1))) (L' := [(2, .int (x2 + (J 1))), (0, .ref a0), (1, .int r4)]) E dX10_mend_97 2 rfl rfl (by decide) rfl ?_
          refine x_goto (tgt := 59) E dX10_mend_100 (by decide) ?_
          refine x_sub (L' := [(0, .ref a0), (1, .int r4), (2, .int (x2 + (J 1)))]) [1, 2, 0] rfl ?_
          exact hk59 (M25, (x2 + (J 1))) h
        · replace h := xbr_t h c26
          clear c26
          refine x_sipush (v := (J (-1003))) E dX10_mend_93 (by decide) ?_
          exact x_iret E hr hlk dX10_mend_96 h
  · replace h := xbr_f h c10
    clear c10
    refine x_iload_n E dX10_mend_35 rfl 1 rfl ?_
    refine x_iload_n E dX10_mend_36 rfl 2 rfl ?_
    refine x_callSi (As := [.int r4, .int x2]) E mlX10_218 rfl stX10_isIn (kX10_isIn l z D cA r4 x2 M _ h) rfl ⟨rfl, rfl⟩ ⟨Nat.le_of_ble_eq_true rfl, Nat.le_of_ble_eq_true rfl⟩ ⟨(Nat.le_of_ble_eq_true rfl), (Nat.le_of_ble_eq_true rfl)⟩ (Nat.le_of_ble_eq_true rfl) rfl dX10_mend_37 (x_pure (fun r27 h => ?_))
    refine x_if_eq (tgt := 51) E dX10_mend_40 (by decide) (fun c29 => ?_) (fun c29 => ?_)
    · replace h := xbr_t h c29
      clear c29
      refine x_iinc (v := (x2 + (J 1))) (L' := [(2, .int (x2 + (J 1))), (0, .ref a0), (1, .int r4)]) E dX10_mend_51 2 rfl rfl (by decide) rfl ?_
      refine x_goto (tgt := 29) E dX10_mend_54 (by decide) ?_
      refine x_sub (L' := [(0, .ref a0), (1, .int r4), (2, .int (x2 + (J 1)))]) [1, 2, 0] rfl ?_
      exact hk29 (M, (x2 + (J 1))) h
    · replace h := xbr_f h c29
      clear c29
      refine x_aload_n E dX10_mend_43 rfl 0 rfl ?_
      obtain ⟨hT, q30, hv, h⟩ := h
      refine x_get E flX10_39 dX10_mend_44 hT hv ?_
      clear hT hv
      refine x_iload_n E dX10_mend_47 rfl 2 rfl ?_
      refine x_callVv (T := TX6) (N := 3) (t := 7) (As := [.int x2]) E mlX10_201 inX6_remove seX6_remove rfl ⟨by decide, by decide⟩ (tX6_remove h) (kX6_remove l z D cA q30 x2 M _ h) rfl ⟨rfl, rfl⟩ ⟨Nat.le_of_ble_eq_true rfl, Nat.le_of_ble_eq_true rfl⟩ ⟨(Nat.le_of_ble_eq_true rfl), (Nat.le_of_ble_eq_true rfl)⟩ (Nat.le_of_ble_eq_true rfl) rfl dX10_mend_48 (fun M32 h => ?_)
      refine x_iinc (v := (x2 + (J 1))) (L' := [(2, .int (x2 + (J 1))), (0, .ref a0), (1, .int r4)]) E dX10_mend_51 2 rfl rfl (by decide) rfl ?_
      refine x_goto (tgt := 29) E dX10_mend_54 (by decide) ?_
      refine x_sub (L' := [(0, .ref a0), (1, .int r4), (2, .int (x2 + (J 1)))]) [1, 2, 0] rfl ?_
      exact hk29 (M32, (x2 + (J 1))) h
