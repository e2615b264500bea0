/-! contracts (by program) -/
theorem dX11_wrong_0 : decode cX11_wrong 0 = .ok (.aload_n 0, 1) := by decide +kernel
theorem dX11_wrong_1 : decode cX11_wrong 1 = .ok (.invokevirtual 273, 3) := by decide +kernel
theorem dX11_wrong_4 : decode cX11_wrong 4 = .ok (.ireturn, 1) := by decide +kernel
set_option maxHeartbeats 4000000 in
set_option maxRecDepth 100000 in
theorem kX11_wrong (l : Launch) (z : Nat) (D : va_G) (cA : Nat → ClassId) (a0 : Nat) (M : Mem) (K : Int32 → Mem → Prop) (h : PX11_wrong a0 M K) : Met l yX11_wrong (.code yX11_wrong cX11_wrong 1 (some .int) :: gtbl) ({ frames := 5, cells := 0, slots := 0, locals := 120 } : Room) (va_Pc [.ref a0] (xB z D cA M)) (va_Qi K (xWd z D cA) (xA z)) 0 0 (xA z) := by
  refine x_met (by decide +kernel) (Nat.le_of_ble_eq_true rfl) (L0 := [(0, .ref a0)]) rfl ?_
  intro p e s m args below meth c E hr hlk hnm
  have E : xE RX11 cX11_wrong 1 D cA p s m args c := E
  replace h := h.2
  refine x_aload_n E dX11_wrong_0 rfl 0 rfl ?_
  refine x_callVi (T := TX11) (N := 32) (t := 12) (As := []) E mlX11_273 inX11_findWrong seX11_findWrong rfl ⟨by decide, by decide⟩ (tX11_findWrong h) (kX11_findWrong l z D cA a0 M _ h) rfl ⟨rfl, rfl⟩ ⟨Nat.le_of_ble_eq_true rfl, Nat.le_of_ble_eq_true rfl⟩ ⟨(Nat.le_of_ble_eq_true rfl), (Nat.le_of_ble_eq_true rfl)⟩ (Nat.le_of_ble_eq_true rfl) rfl dX11_wrong_1 (fun r1 M2 h => ?_)
  exact x_iret E hr hlk dX11_wrong_4 h
theorem dX11_tidy_0 : decode cX11_tidy 0 = .ok (.iload_n 1, 1) := by decide +kernel
theorem dX11_tidy_1 : decode cX11_tidy 1 = .ok (.i2l, 1) := by decide +kernel
theorem dX11_tidy_2 : decode cX11_tidy 2 = .ok (.lconst 0, 1) := by decide +kernel
theorem dX11_tidy_3 : decode cX11_tidy 3 = .ok (.lconst 1, 1) := by decide +kernel
theorem dX11_tidy_4 : decode cX11_tidy 4 = .ok (.invokestatic 78, 3) := by decide +kernel
theorem dX11_tidy_7 : decode cX11_tidy 7 = .ok (.ifCond .ne 7, 3) := by decide +kernel
theorem dX11_tidy_10 : decode cX11_tidy 10 = .ok (.sipush (-1002), 3) := by decide +kernel
theorem dX11_tidy_13 : decode cX11_tidy 13 = .ok (.ireturn, 1) := by decide +kernel
theorem dX11_tidy_14 : decode cX11_tidy 14 = .ok (.iconst 0, 1) := by decide +kernel
theorem dX11_tidy_15 : decode cX11_tidy 15 = .ok (.istore_n 2, 1) := by decide +kernel
theorem dX11_tidy_16 : decode cX11_tidy 16 = .ok (.iconst (-1), 1) := by decide +kernel
theorem dX11_tidy_17 : decode cX11_tidy 17 = .ok (.istore_n 3, 1) := by decide +kernel
theorem dX11_tidy_18 : decode cX11_tidy 18 = .ok (.aload_n 0, 1) := by decide +kernel
theorem dX11_tidy_19 : decode cX11_tidy 19 = .ok (.getfield 222, 3) := by decide +kernel
theorem dX11_tidy_22 : decode cX11_tidy 22 = .ok (.iconst 2, 1) := by decide +kernel
theorem dX11_tidy_23 : decode cX11_tidy 23 = .ok (.isub, 1) := by decide +kernel
theorem dX11_tidy_24 : decode cX11_tidy 24 = .ok (.istore 4, 2) := by decide +kernel
theorem dX11_tidy_26 : decode cX11_tidy 26 = .ok (.iload 4, 2) := by decide +kernel
theorem dX11_tidy_28 : decode cX11_tidy 28 = .ok (.ifCond .lt 96, 3) := by decide +kernel
theorem dX11_tidy_31 : decode cX11_tidy 31 = .ok (.aload_n 0, 1) := by decide +kernel
theorem dX11_tidy_32 : decode cX11_tidy 32 = .ok (.aload_n 0, 1) := by decide +kernel
theorem dX11_tidy_33 : decode cX11_tidy 33 = .ok (.getfield 28, 3) := by decide +kernel
theorem dX11_tidy_36 : decode cX11_tidy 36 = .ok (.iload 4, 2) := by decide +kernel
theorem dX11_tidy_38 : decode cX11_tidy 38 = .ok (.iaload, 1) := by decide +kernel
theorem dX11_tidy_39 : decode cX11_tidy 39 = .ok (.aload_n 0, 1) := by decide +kernel
theorem dX11_tidy_40 : decode cX11_tidy 40 = .ok (.getfield 28, 3) := by decide +kernel
theorem dX11_tidy_43 : decode cX11_tidy 43 = .ok (.iload 4, 2) := by decide +kernel
theorem dX11_tidy_45 : decode cX11_tidy 45 = .ok (.iconst 1, 1) := by decide +kernel
theorem dX11_tidy_46 : decode cX11_tidy 46 = .ok (.iadd, 1) := by decide +kernel
theorem dX11_tidy_47 : decode cX11_tidy 47 = .ok (.iaload, 1) := by decide +kernel
theorem dX11_tidy_48 : decode cX11_tidy 48 = .ok (.iconst 0, 1) := by decide +kernel
theorem dX11_tidy_49 : decode cX11_tidy 49 = .ok (.invokevirtual 214, 3) := by decide +kernel
theorem dX11_tidy_52 : decode cX11_tidy 52 = .ok (.ifCond .eq 7, 3) := by decide +kernel
theorem dX11_tidy_55 : decode cX11_tidy 55 = .ok (.iload_n 3, 1) := by decide +kernel
theorem dX11_tidy_56 : decode cX11_tidy 56 = .ok (.goto 10, 3) := by decide +kernel
theorem dX11_tidy_59 : decode cX11_tidy 59 = .ok (.aload_n 0, 1) := by decide +kernel
theorem dX11_tidy_60 : decode cX11_tidy 60 = .ok (.getfield 28, 3) := by decide +kernel
theorem dX11_tidy_63 : decode cX11_tidy 63 = .ok (.iload 4, 2) := by decide +kernel
theorem dX11_tidy_65 : decode cX11_tidy 65 = .ok (.iaload, 1) := by decide +kernel
theorem dX11_tidy_66 : decode cX11_tidy 66 = .ok (.istore_n 3, 1) := by decide +kernel
theorem dX11_tidy_67 : decode cX11_tidy 67 = .ok (.iload 4, 2) := by decide +kernel
theorem dX11_tidy_69 : decode cX11_tidy 69 = .ok (.iconst 1, 1) := by decide +kernel
theorem dX11_tidy_70 : decode cX11_tidy 70 = .ok (.iadd, 1) := by decide +kernel
theorem dX11_tidy_71 : decode cX11_tidy 71 = .ok (.istore 5, 2) := by decide +kernel
theorem dX11_tidy_73 : decode cX11_tidy 73 = .ok (.iload 5, 2) := by decide +kernel
theorem dX11_tidy_75 : decode cX11_tidy 75 = .ok (.aload_n 0, 1) := by decide +kernel
theorem dX11_tidy_76 : decode cX11_tidy 76 = .ok (.getfield 222, 3) := by decide +kernel
theorem dX11_tidy_79 : decode cX11_tidy 79 = .ok (.if_icmp .ge 39, 3) := by decide +kernel
theorem dX11_tidy_82 : decode cX11_tidy 82 = .ok (.iload_n 2, 1) := by decide +kernel
theorem dX11_tidy_83 : decode cX11_tidy 83 = .ok (.aload_n 0, 1) := by decide +kernel
theorem dX11_tidy_84 : decode cX11_tidy 84 = .ok (.aload_n 0, 1) := by decide +kernel
theorem dX11_tidy_85 : decode cX11_tidy 85 = .ok (.getfield 28, 3) := by decide +kernel
theorem dX11_tidy_88 : decode cX11_tidy 88 = .ok (.iload 4, 2) := by decide +kernel
theorem dX11_tidy_90 : decode cX11_tidy 90 = .ok (.iaload, 1) := by decide +kernel
theorem dX11_tidy_91 : decode cX11_tidy 91 = .ok (.aload_n 0, 1) := by decide +kernel
theorem dX11_tidy_92 : decode cX11_tidy 92 = .ok (.getfield 28, 3) := by decide +kernel
theorem dX11_tidy_95 : decode cX11_tidy 95 = .ok (.iload 5, 2) := by decide +kernel
theorem dX11_tidy_97 : decode cX11_tidy 97 = .ok (.iaload, 1) := by decide +kernel
theorem dX11_tidy_98 : decode cX11_tidy 98 = .ok (.iconst 0, 1) := by decide +kernel
theorem dX11_tidy_99 : decode cX11_tidy 99 = .ok (.invokevirtual 214, 3) := by decide +kernel
theorem dX11_tidy_102 : decode cX11_tidy 102 = .ok (.ifCond .eq 7, 3) := by decide +kernel
theorem dX11_tidy_105 : decode cX11_tidy 105 = .ok (.iconst 0, 1) := by decide +kernel
theorem dX11_tidy_106 : decode cX11_tidy 106 = .ok (.goto 4, 3) := by decide +kernel
theorem dX11_tidy_109 : decode cX11_tidy 109 = .ok (.iconst 1, 1) := by decide +kernel
theorem dX11_tidy_110 : decode cX11_tidy 110 = .ok (.iadd, 1) := by decide +kernel
theorem dX11_tidy_111 : decode cX11_tidy 111 = .ok (.istore_n 2, 1) := by decide +kernel
theorem dX11_tidy_112 : decode cX11_tidy 112 = .ok (.iinc 5 1, 3) := by decide +kernel
theorem dX11_tidy_115 : decode cX11_tidy 115 = .ok (.goto (-42), 3) := by decide +kernel
theorem dX11_tidy_118 : decode cX11_tidy 118 = .ok (.iinc 4 (-1), 3) := by decide +kernel
theorem dX11_tidy_121 : decode cX11_tidy 121 = .ok (.goto (-95), 3) := by decide +kernel
theorem dX11_tidy_124 : decode cX11_tidy 124 = .ok (.iload_n 1, 1) := by decide +kernel
theorem dX11_tidy_125 : decode cX11_tidy 125 = .ok (.ifCond .ne 7, 3) := by decide +kernel
theorem dX11_tidy_128 : decode cX11_tidy 128 = .ok (.iload_n 2, 1) := by decide +kernel
theorem dX11_tidy_129 : decode cX11_tidy 129 = .ok (.goto 4, 3) := by decide +kernel
theorem dX11_tidy_132 : decode cX11_tidy 132 = .ok (.iload_n 3, 1) := by decide +kernel
theorem dX11_tidy_133 : decode cX11_tidy 133 = .ok (.ireturn, 1) := by decide +kernel
set_option maxHeartbeats 4000000 in
set_option maxRecDepth 100000 in
theorem kX11_tidy (l : Launch) (z : Nat) (D : va_G) (cA : Nat → ClassId) (a0 : Nat) (x1 : Int32) (M : Mem) (K : Int32 → Prop) (h : PX11_tidy a0 x1 M K) : Met l yX11_tidy (.code yX11_tidy cX11_tidy 6 (some .int) :: gtbl) ({ frames := 3, cells := 0, slots := 0, locals := 73 } : Room) (va_Pc [.ref a0, .int x1] (xB z D cA M)) (va_Qi (fun r M1 => M1 = M ∧ K r) (xWd z D cA) (xA z)) 0 0 (xA z) := by
  refine x_met (by decide +kernel) (Nat.le_of_ble_eq_true rfl) (L0 := [(0, .ref a0), (1, .int x1)]) rfl ?_
  intro p e s m args below meth c E hr hlk hnm
  have E : xE RX11 cX11_tidy 6 D cA p s m args c := E
  replace h := h.2
  refine x_iload_n E dX11_tidy_0 rfl 1 rfl ?_
  refine x_i2l E dX11_tidy_1 ?_
  refine x_lconst (v := (LJ 0)) E dX11_tidy_2 (by decide) ?_
  refine x_lconst (v := (LJ 1)) E dX11_tidy_3 (by decide) ?_
  refine x_callSi (As := [.long x1.toInt64, .long (LJ 0), .long (LJ 1)]) E mlX11_78 rfl stX11_in (kX11_in l z D cA x1.toInt64 (LJ 0) (LJ 1) M _ h) rfl ⟨rfl, rfl⟩ ⟨Nat.le_of_ble_eq_true rfl, Nat.le_of_ble_eq_true rfl⟩ ⟨(Nat.le_of_ble_eq_true rfl), (Nat.le_of_ble_eq_true rfl)⟩ (Nat.le_of_ble_eq_true rfl) rfl dX11_tidy_4 (x_pure (fun r1 h => ?_))
  refine x_if_ne (tgt := 14) E dX11_tidy_7 (by decide) (fun c3 => ?_) (fun c3 => ?_)
  · replace h := xbr_f h c3
    clear c3
    refine x_iconst (v := (J 0)) E dX11_tidy_14 (by decide) ?_
    refine x_istore_n (L' := [(2, .int (J 0)), (0, .ref a0), (1, .int x1)]) E dX11_tidy_15 rfl (by decide) rfl ?_
    refine x_iconst (v := (J (-1))) E dX11_tidy_16 (by decide) ?_
    refine x_istore_n (L' := [(3, .int (J (-1))), (2, .int (J 0)), (0, .ref a0), (1, .int x1)]) E dX11_tidy_17 rfl (by decide) rfl ?_
    refine x_aload_n E dX11_tidy_18 rfl 2 rfl ?_
    obtain ⟨hT, v4, hv, h⟩ := h
    refine x_get E flX11_222 dX11_tidy_19 hT hv ?_
    clear hT hv
    refine x_iconst (v := (J 2)) E dX11_tidy_22 (by decide) ?_
    refine x_isub E dX11_tidy_23 ?_
    obtain ⟨y5, ey5, h⟩ := h
    refine x_top (v := .int y5) (congrArg _ ey5) ?_
    clear ey5
    refine x_istore (L' := [(4, .int y5), (3, .int (J (-1))), (2, .int (J 0)), (0, .ref a0), (1, .int x1)]) E dX11_tidy_24 (by decide) rfl ?_
    refine x_sub (L' := [(0, .ref a0), (1, .int x1), (2, .int (J 0)), (3, .int (J (-1))), (4, .int y5)]) [3, 4, 2, 1, 0] rfl ?_
    refine lp_sound (T := fun sv => xG p l e ({ frames := 3, cells := 0, slots := 0, locals := 73 } : Room) s m args below meth c (MQ below (va_Qi (fun r M1 => M1 = M ∧ K r) (xWd z D cA) (xA z)) args s 0 0 (xA z)) 6 z D cA M (0) (0) 26 [(0, .ref a0), (1, .int x1), (2, .int sv.1), (3, .int sv.2.1), (4, .int sv.2.2)] []) ?_ ((J 0), (J (-1)), y5) h
    clear h
    intro kc26 hk26 sv h
    obtain ⟨x2, x3, x4⟩ := sv
    replace h : CX11_tidy_26 K M a0 x1 kc26 x2 x3 x4 := h
    try dsimp only
    have hJ66 : ∀ (j2 : Int32) (j4 : Int32) (s0 : Int32), JX11_tidy_66 K kc26 M a0 x1 j2 j4 s0 → xG p l e ({ frames := 3, cells := 0, slots := 0, locals := 73 } : Room) s m args below meth c (MQ below (va_Qi (fun r M1 => M1 = M ∧ K r) (xWd z D cA) (xA z)) args s 0 0 (xA z)) 6 z D cA M (0) (0) 66 [(0, .ref a0), (1, .int x1), (2, .int j2), (4, .int j4)] [.int s0] := by
      intro j2 j4 s0 h
      refine x_istore_n (L' := [(3, .int s0), (0, .ref a0), (1, .int x1), (2, .int j2), (4, .int j4)]) E dX11_tidy_66 rfl (by decide) rfl ?_
      refine x_iload E dX11_tidy_67 4 rfl ?_
      refine x_iconst (v := (J 1)) E dX11_tidy_69 (by decide) ?_
      refine x_iadd E dX11_tidy_70 ?_
      obtain ⟨y17, ey17, h⟩ := h
      refine x_top (v := .int y17) (congrArg _ ey17) ?_
      clear ey17
      refine x_istore (L' := [(5, .int y17), (3, .int s0), (0, .ref a0), (1, .int x1), (2, .int j2), (4, .int j4)]) E dX11_tidy_71 (by decide) rfl ?_
      refine x_sub (L' := [(0, .ref a0), (1, .int x1), (2, .int j2), (3, .int s0), (4, .int j4), (5, .int y17)]) [2, 3, 4, 1, 5, 0] rfl ?_
      refine lp_sound (T := fun sv => xG p l e ({ frames := 3, cells := 0, slots := 0, locals := 73 } : Room) s m args below meth c (MQ below (va_Qi (fun r M1 => M1 = M ∧ K r) (xWd z D cA) (xA z)) args s 0 0 (xA z)) 6 z D cA M (0) (0) 73 [(0, .ref a0), (1, .int x1), (2, .int sv.1), (3, .int s0), (4, .int j4), (5, .int sv.2)] []) ?_ (j2, y17) h
      clear h
      intro kc73 hk73 sv h
      obtain ⟨x2, x5⟩ := sv
      replace h : CX11_tidy_73 K kc26 M a0 x1 s0 j4 kc73 x2 x5 := h
      try dsimp only
      refine x_iload E dX11_tidy_73 5 rfl ?_
      refine x_aload_n E dX11_tidy_75 rfl 0 rfl ?_
      obtain ⟨hT, v18, hv, h⟩ := h
      refine x_get E flX11_222 dX11_tidy_76 hT hv ?_
      clear hT hv
      refine x_icmp_ge (tgt := 118) E dX11_tidy_79 (by decide) (fun c19 => ?_) (fun c19 => ?_)
      · replace h := xbr_t h c19
        clear c19
        refine x_iinc (v := (j4 + (J (-1)))) (L' := [(4, .int (j4 + (J (-1)))), (0, .ref a0), (1, .int x1), (2, .int x2), (3, .int s0), (5, .int x5)]) E dX11_tidy_118 4 rfl rfl (by decide) rfl ?_
        refine x_goto (tgt := 26) E dX11_tidy_121 (by decide) ?_
        refine x_sub (L' := [(0, .ref a0), (1, .int x1), (2, .int x2), (3, .int s0), (4, .int (j4 + (J (-1))))]) [1, 2, 3, 4, 0] rfl ?_
        exact hk26 (x2, s0, (j4 + (J (-1)))) h
      · replace h := xbr_f h c19
        clear c19
        refine x_iload_n E dX11_tidy_82 rfl 2 rfl ?_
        refine x_aload_n E dX11_tidy_83 rfl 0 rfl ?_
        refine x_aload_n E dX11_tidy_84 rfl 0 rfl ?_
        obtain ⟨hT, q20, hv, h⟩ := h
        refine x_get E flX11_28 dX11_tidy_85 hT hv ?_
        clear hT hv
        refine x_iload E dX11_tidy_88 4 rfl ?_
        obtain ⟨hT, hi, v21, hv, h⟩ := h
        refine x_iald E dX11_tidy_90 hT hi hv ?_
        clear hT hi hv
        refine x_aload_n E dX11_tidy_91 rfl 0 rfl ?_
        obtain ⟨hT, q22, hv, h⟩ := h
        refine x_get E flX11_28 dX11_tidy_92 hT hv ?_
        clear hT hv
        refine x_iload E dX11_tidy_95 5 rfl ?_
        obtain ⟨hT, hi, v23, hv, h⟩ := h
        refine x_iald E dX11_tidy_97 hT hi hv ?_
        clear hT hi hv
        refine x_iconst (v := (J 0)) E dX11_tidy_98 (by decide) ?_
        refine x_callVi (T := TX11) (N := 32) (t := 12) (As := [.int v21, .int v23, .int (J 0)]) E mlX11_214 inX11_isAhead seX11_isAhead rfl ⟨by decide, by decide⟩ (tX11_isAhead h) (kX11_isAhead l z D cA a0 v21 v23 (J 0) M _ h) rfl ⟨rfl, rfl⟩ ⟨Nat.le_of_ble_eq_true rfl, Nat.le_of_ble_eq_true rfl⟩ ⟨(Nat.le_of_ble_eq_true rfl), (Nat.le_of_ble_eq_true rfl)⟩ (Nat.le_of_ble_eq_true rfl) rfl dX11_tidy_99 (x_pure (fun r24 h => ?_))
        refine x_if_eq (tgt := 109) E dX11_tidy_102 (by decide) (fun c26 => ?_) (fun c26 => ?_)
        · replace h := xbr_t h c26
          clear c26
          refine x_iconst (v := (J 1)) E dX11_tidy_109 (by decide) ?_
          refine x_iadd E dX11_tidy_110 ?_
          obtain ⟨y27, ey27, h⟩ := h
          refine x_top (v := .int y27) (congrArg _ ey27) ?_
          clear ey27
          refine x_istore_n (L' := [(2, .int y27), (0, .ref a0), (1, .int x1), (3, .int s0), (4, .int j4), (5, .int x5)]) E dX11_tidy_111 rfl (by decide) rfl ?_
          refine x_iinc (v := (x5 + (J 1))) (L' := [(5, .int (x5 + (J 1))), (2, .int y27), (0, .ref a0), (1, .int x1), (3, .int s0), (4, .int j4)]) E dX11_tidy_112 5 rfl rfl (by decide) rfl ?_
          refine x_goto (tgt := 73) E dX11_tidy_115 (by decide) ?_
          refine x_sub (L' := [(0, .ref a0), (1, .int x1), (2, .int y27), (3, .int s0), (4, .int j4), (5, .int (x5 + (J 1)))]) [2, 3, 1, 4, 5, 0] rfl ?_
          exact hk73 (y27, (x5 + (J 1))) h
        · replace h := xbr_f h c26
          clear c26
          refine x_iconst (v := (J 0)) E dX11_tidy_105 (by decide) ?_
          refine x_goto (tgt := 110) E dX11_tidy_106 (by decide) ?_
          refine x_iadd E dX11_tidy_110 ?_
          obtain ⟨y28, ey28, h⟩ := h
          refine x_top (v := .int y28) (congrArg _ ey28) ?_
          clear ey28
          refine x_istore_n (L' := [(2, .int y28), (0, .ref a0), (1, .int x1), (3, .int s0), (4, .int j4), (5, .int x5)]) E dX11_tidy_111 rfl (by decide) rfl ?_
          refine x_iinc (v := (x5 + (J 1))) (L' := [(5, .int (x5 + (J 1))), (2, .int y28), (0, .ref a0), (1, .int x1), (3, .int s0), (4, .int j4)]) E dX11_tidy_112 5 rfl rfl (by decide) rfl ?_
          refine x_goto (tgt := 73) E dX11_tidy_115 (by decide) ?_
          refine x_sub (L' := [(0, .ref a0), (1, .int x1), (2, .int y28), (3, .int s0), (4, .int j4), (5, .int (x5 + (J 1)))]) [2, 3, 1, 4, 5, 0] rfl ?_
          exact hk73 (y28, (x5 + (J 1))) h
    refine x_iload E dX11_tidy_26 4 rfl ?_
    refine x_if_lt (tgt := 124) E dX11_tidy_28 (by decide) (fun c6 => ?_) (fun c6 => ?_)
    · replace h := xbr_t h c6
      clear c6
      refine x_iload_n E dX11_tidy_124 rfl 1 rfl ?_
      refine x_if_ne (tgt := 132) E dX11_tidy_125 (by decide) (fun c7 => ?_) (fun c7 => ?_)
      · replace h := xbr_f h c7
        clear c7
        refine x_iload_n E dX11_tidy_132 rfl 3 rfl ?_
        exact x_iret E hr hlk dX11_tidy_133 ⟨rfl, h⟩
      · replace h := xbr_t h c7
        clear c7
        refine x_iload_n E dX11_tidy_128 rfl 2 rfl ?_
        refine x_goto (tgt := 133) E dX11_tidy_129 (by decide) ?_
        exact x_iret E hr hlk dX11_tidy_133 ⟨rfl, h⟩
    · replace h := xbr_f h c6
      clear c6
      refine x_aload_n E dX11_tidy_31 rfl 0 rfl ?_
      refine x_aload_n E dX11_tidy_32 rfl 0 rfl ?_
      obtain ⟨hT, q8, hv, h⟩ := h
      refine x_get E flX11_28 dX11_tidy_33 hT hv ?_
      clear hT hv
      refine x_iload E dX11_tidy_36 4 rfl ?_
      obtain ⟨hT, hi, v9, hv, h⟩ := h
      refine x_iald E dX11_tidy_38 hT hi hv ?_
      clear hT hi hv
      refine x_aload_n E dX11_tidy_39 rfl 0 rfl ?_
      obtain ⟨hT, q10, hv, h⟩ := h
      refine x_get E flX11_28 dX11_tidy_40 hT hv ?_
      clear hT hv
      refine x_iload E dX11_tidy_43 4 rfl ?_
      refine x_iconst (v := (J 1)) E dX11_tidy_45 (by decide) ?_
      refine x_iadd E dX11_tidy_46 ?_
      obtain ⟨hT, hi, v11, hv, h⟩ := h
      refine x_iald E dX11_tidy_47 hT hi hv ?_
      clear hT hi hv
      refine x_iconst (v := (J 0)) E dX11_tidy_48 (by decide) ?_
      refine x_callVi (T := TX11) (N := 32) (t := 12) (As := [.int v9, .int v11, .int (J 0)]) E mlX11_214 inX11_isAhead seX11_isAhead rfl ⟨by decide, by decide⟩ (tX11_isAhead h) (kX11_isAhead l z D cA a0 v9 v11 (J 0) M _ h) rfl ⟨rfl, rfl⟩ ⟨Nat.le_of_ble_eq_true rfl, Nat.le_of_ble_eq_true rfl⟩ ⟨(Nat.le_of_ble_eq_true rfl), (Nat.le_of_ble_eq_true rfl)⟩ (Nat.le_of_ble_eq_true rfl) rfl dX11_tidy_49 (x_pure (fun r12 h => ?_))
      refine x_if_eq (tgt := 59) E dX11_tidy_52 (by decide) (fun c14 => ?_) (fun c14 => ?_)
      · replace h := xbr_t h c14
        clear c14
        refine x_aload_n E dX11_tidy_59 rfl 0 rfl ?_
        obtain ⟨hT, q15, hv, h⟩ := h
        refine x_get E flX11_28 dX11_tidy_60 hT hv ?_
        clear hT hv
        refine x_iload E dX11_tidy_63 4 rfl ?_
        obtain ⟨hT, hi, v16, hv, h⟩ := h
        refine x_iald E dX11_tidy_65 hT hi hv ?_
        clear hT hi hv
        refine x_sub (L' := [(0, .ref a0), (1, .int x1), (2, .int x2), (4, .int x4)]) [0, 1, 2, 4] rfl ?_
        exact hJ66 x2 x4 v16 h
      · replace h := xbr_f h c14
        clear c14
        refine x_iload_n E dX11_tidy_55 rfl 3 rfl ?_
        refine x_goto (tgt := 66) E dX11_tidy_56 (by decide) ?_
        refine x_sub (L' := [(0, .ref a0), (1, .int x1), (2, .int x2), (4, .int x4)]) [0, 1, 2, 4] rfl ?_
        exact hJ66 x2 x4 x3 h
  · replace h := xbr_t h c3
    clear c3
    refine x_sipush (v := (J (-1002))) E dX11_tidy_10 (by decide) ?_
    exact x_iret E hr hlk dX11_tidy_13 ⟨rfl, h⟩
theorem dX11_mend_0 : decode cX11_mend 0 = .ok (.aload_n 0, 1) := by decide +kernel
theorem dX11_mend_1 : decode cX11_mend 1 = .ok (.invokevirtual 273, 3) := by decide +kernel
theorem dX11_mend_4 : decode cX11_mend 4 = .ok (.istore_n 1, 1) := by decide +kernel
theorem dX11_mend_5 : decode cX11_mend 5 = .ok (.aload_n 0, 1) := by decide +kernel
theorem dX11_mend_6 : decode cX11_mend 6 = .ok (.invokevirtual 258, 3) := by decide +kernel
theorem dX11_mend_9 : decode cX11_mend 9 = .ok (.iconst 0, 1) := by decide +kernel
theorem dX11_mend_10 : decode cX11_mend 10 = .ok (.istore_n 2, 1) := by decide +kernel
theorem dX11_mend_11 : decode cX11_mend 11 = .ok (.iload_n 2, 1) := by decide +kernel
theorem dX11_mend_12 : decode cX11_mend 12 = .ok (.aload_n 0, 1) := by decide +kernel
theorem dX11_mend_13 : decode cX11_mend 13 = .ok (.getfield 75, 3) := by decide +kernel
theorem dX11_mend_16 : decode cX11_mend 16 = .ok (.if_icmp .ge 26, 3) := by decide +kernel
theorem dX11_mend_19 : decode cX11_mend 19 = .ok (.iload_n 1, 1) := by decide +kernel
theorem dX11_mend_20 : decode cX11_mend 20 = .ok (.iload_n 2, 1) := by decide +kernel
theorem dX11_mend_21 : decode cX11_mend 21 = .ok (.invokestatic 276, 3) := by decide +kernel
theorem dX11_mend_24 : decode cX11_mend 24 = .ok (.ifCond .eq 12, 3) := by decide +kernel
theorem dX11_mend_27 : decode cX11_mend 27 = .ok (.aload_n 0, 1) := by decide +kernel
theorem dX11_mend_28 : decode cX11_mend 28 = .ok (.aload_n 0, 1) := by decide +kernel
theorem dX11_mend_29 : decode cX11_mend 29 = .ok (.iload_n 2, 1) := by decide +kernel
theorem dX11_mend_30 : decode cX11_mend 30 = .ok (.invokevirtual 167, 3) := by decide +kernel
theorem dX11_mend_33 : decode cX11_mend 33 = .ok (.invokevirtual 267, 3) := by decide +kernel
theorem dX11_mend_36 : decode cX11_mend 36 = .ok (.iinc 2 1, 3) := by decide +kernel
theorem dX11_mend_39 : decode cX11_mend 39 = .ok (.goto (-28), 3) := by decide +kernel
theorem dX11_mend_42 : decode cX11_mend 42 = .ok (.iconst 0, 1) := by decide +kernel
theorem dX11_mend_43 : decode cX11_mend 43 = .ok (.istore_n 2, 1) := by decide +kernel
theorem dX11_mend_44 : decode cX11_mend 44 = .ok (.iload_n 2, 1) := by decide +kernel
theorem dX11_mend_45 : decode cX11_mend 45 = .ok (.aload_n 0, 1) := by decide +kernel
theorem dX11_mend_46 : decode cX11_mend 46 = .ok (.getfield 75, 3) := by decide +kernel
theorem dX11_mend_49 : decode cX11_mend 49 = .ok (.if_icmp .ge 34, 3) := by decide +kernel
theorem dX11_mend_52 : decode cX11_mend 52 = .ok (.iload_n 1, 1) := by decide +kernel
theorem dX11_mend_53 : decode cX11_mend 53 = .ok (.iload_n 2, 1) := by decide +kernel
theorem dX11_mend_54 : decode cX11_mend 54 = .ok (.invokestatic 276, 3) := by decide +kernel
theorem dX11_mend_57 : decode cX11_mend 57 = .ok (.ifCond .eq 20, 3) := by decide +kernel
theorem dX11_mend_60 : decode cX11_mend 60 = .ok (.aload_n 0, 1) := by decide +kernel
theorem dX11_mend_61 : decode cX11_mend 61 = .ok (.iload_n 2, 1) := by decide +kernel
theorem dX11_mend_62 : decode cX11_mend 62 = .ok (.iconst 0, 1) := by decide +kernel
theorem dX11_mend_63 : decode cX11_mend 63 = .ok (.invokevirtual 261, 3) := by decide +kernel
theorem dX11_mend_66 : decode cX11_mend 66 = .ok (.ifCond .ne 11, 3) := by decide +kernel
theorem dX11_mend_69 : decode cX11_mend 69 = .ok (.aload_n 0, 1) := by decide +kernel
theorem dX11_mend_70 : decode cX11_mend 70 = .ok (.invokevirtual 264, 3) := by decide +kernel
theorem dX11_mend_73 : decode cX11_mend 73 = .ok (.sipush (-1003), 3) := by decide +kernel
theorem dX11_mend_76 : decode cX11_mend 76 = .ok (.ireturn, 1) := by decide +kernel
theorem dX11_mend_77 : decode cX11_mend 77 = .ok (.iinc 2 1, 3) := by decide +kernel
theorem dX11_mend_80 : decode cX11_mend 80 = .ok (.goto (-36), 3) := by decide +kernel
theorem dX11_mend_83 : decode cX11_mend 83 = .ok (.iload_n 1, 1) := by decide +kernel
theorem dX11_mend_84 : decode cX11_mend 84 = .ok (.invokestatic 228, 3) := by decide +kernel
theorem dX11_mend_87 : decode cX11_mend 87 = .ok (.ireturn, 1) := by decide +kernel
set_option maxHeartbeats 4000000 in
set_option maxRecDepth 100000 in
theorem kX11_mend (l : Launch) (z : Nat) (D : va_G) (cA : Nat → ClassId) (a0 : Nat) (M : Mem) (K : Int32 → Mem → Prop) (h : PX11_mend a0 M K) : Met l yX11_mend (.code yX11_mend cX11_mend 3 (some .int) :: gtbl) ({ frames := 5, cells := 0, slots := 0, locals := 120 } : Room) (va_Pc [.ref a0] (xB z D cA M)) (va_Qi K (xWd z D cA) (xA z)) 0 0 (xA z) := by
  refine x_met (by decide +kernel) (Nat.le_of_ble_eq_true rfl) (L0 := [(0, .ref a0)]) rfl ?_
  intro p e s m args below meth c E hr hlk hnm
  have E : xE RX11 cX11_mend 3 D cA p s m args c := E
  replace h := h.2
  refine x_aload_n E dX11_mend_0 rfl 0 rfl ?_
  refine x_callVi (T := TX11) (N := 32) (t := 12) (As := []) E mlX11_273 inX11_findWrong seX11_findWrong rfl ⟨by decide, by decide⟩ (tX11_findWrong h) (kX11_findWrong l z D cA a0 M _ h) rfl ⟨rfl, rfl⟩ ⟨Nat.le_of_ble_eq_true rfl, Nat.le_of_ble_eq_true rfl⟩ ⟨(Nat.le_of_ble_eq_true rfl), (Nat.le_of_ble_eq_true rfl)⟩ (Nat.le_of_ble_eq_true rfl) rfl dX11_mend_1 (fun r1 M2 h => ?_)
  refine x_istore_n (L' := [(1, .int r1), (0, .ref a0)]) E dX11_mend_4 rfl (by decide) rfl ?_
  refine x_aload_n E dX11_mend_5 rfl 1 rfl ?_
  refine x_callVv (T := TX11) (N := 32) (t := 12) (As := []) E mlX11_258 inX11_save seX11_save rfl ⟨by decide, by decide⟩ (tX11_save h) (kX11_save l z D cA a0 M2 _ h) rfl ⟨rfl, rfl⟩ ⟨Nat.le_of_ble_eq_true rfl, Nat.le_of_ble_eq_true rfl⟩ ⟨(Nat.le_of_ble_eq_true rfl), (Nat.le_of_ble_eq_true rfl)⟩ (Nat.le_of_ble_eq_true rfl) rfl dX11_mend_6 (fun M4 h => ?_)
  refine x_iconst (v := (J 0)) E dX11_mend_9 (by decide) ?_
  refine x_istore_n (L' := [(2, .int (J 0)), (1, .int r1), (0, .ref a0)]) E dX11_mend_10 rfl (by decide) rfl ?_
  refine x_sub (L' := [(0, .ref a0), (1, .int r1), (2, .int (J 0))]) [2, 1, 0] rfl ?_
  refine lp_sound (T := fun sv => xG p l e ({ frames := 5, cells := 0, slots := 0, locals := 120 } : Room) s m args below meth c (MQ below (va_Qi K (xWd z D cA) (xA z)) args s 0 0 (xA z)) 3 z D cA sv.1 (0) (0) 11 [(0, .ref a0), (1, .int r1), (2, .int sv.2)] []) ?_ (M4, (J 0)) h
  clear h
  intro kc11 hk11 sv h
  obtain ⟨M, x2⟩ := sv
  replace h : CX11_mend_11 K a0 r1 kc11 M x2 := h
  try dsimp only
  refine x_iload_n E dX11_mend_11 rfl 2 rfl ?_
  refine x_aload_n E dX11_mend_12 rfl 0 rfl ?_
  obtain ⟨hT, v5, hv, h⟩ := h
  refine x_get E flX11_75 dX11_mend_13 hT hv ?_
  clear hT hv
  refine x_icmp_ge (tgt := 42) E dX11_mend_16 (by decide) (fun c6 => ?_) (fun c6 => ?_)
  · replace h := xbr_t h c6
    clear c6
    refine x_iconst (v := (J 0)) E dX11_mend_42 (by decide) ?_
    refine x_istore_n (L' := [(2, .int (J 0)), (0, .ref a0), (1, .int r1)]) E dX11_mend_43 rfl (by decide) rfl ?_
    refine x_sub (L' := [(0, .ref a0), (1, .int r1), (2, .int (J 0))]) [1, 2, 0] rfl ?_
    refine lp_sound (T := fun sv => xG p l e ({ frames := 5, cells := 0, slots := 0, locals := 120 } : Room) s m args below meth c (MQ below (va_Qi K (xWd z D cA) (xA z)) args s 0 0 (xA z)) 3 z D cA sv.1 (0) (0) 44 [(0, .ref a0), (1, .int r1), (2, .int sv.2)] []) ?_ (M, (J 0)) h
    clear h
    intro kc44 hk44 sv h
    obtain ⟨M, x2⟩ := sv
    replace h : CX11_mend_44 K a0 r1 kc44 M x2 := h
    try dsimp only
    refine x_iload_n E dX11_mend_44 rfl 2 rfl ?_
    refine x_aload_n E dX11_mend_45 rfl 0 rfl ?_
    obtain ⟨hT, v7, hv, h⟩ := h
    refine x_get E flX11_75 dX11_mend_46 hT hv ?_
    clear hT hv
    refine x_icmp_ge (tgt := 83) E dX11_mend_49 (by decide) (fun c8 => ?_) (fun c8 => ?_)
    · replace h := xbr_t h c8
      clear c8
      refine x_iload_n E dX11_mend_83 rfl 1 rfl ?_
      refine x_callSi (As := [.int r1]) E mlX11_228 rfl stX11_bits (kX11_bits l z D cA r1 M _ h) rfl ⟨rfl, rfl⟩ ⟨Nat.le_of_ble_eq_true rfl, Nat.le_of_ble_eq_true rfl⟩ ⟨(Nat.le_of_ble_eq_true rfl), (Nat.le_of_ble_eq_true rfl)⟩ (Nat.le_of_ble_eq_true rfl) rfl dX11_mend_84 (x_pure (fun r9 h => ?_))
      exact x_iret E hr hlk dX11_mend_87 h
    · replace h := xbr_f h c8
      clear c8
      refine x_iload_n E dX11_mend_52 rfl 1 rfl ?_
      refine x_iload_n E dX11_mend_53 rfl 2 rfl ?_
      refine x_callSi (As := [.int r1, .int x2]) E mlX11_276 rfl stX11_has (kX11_has l z D cA r1 x2 M _ h) rfl ⟨rfl, rfl⟩ ⟨Nat.le_of_ble_eq_true rfl, Nat.le_of_ble_eq_true rfl⟩ ⟨(Nat.le_of_ble_eq_true rfl), (Nat.le_of_ble_eq_true rfl)⟩ (Nat.le_of_ble_eq_true rfl) rfl dX11_mend_54 (x_pure (fun r11 h => ?_))
      refine x_if_eq (tgt := 77) E dX11_mend_57 (by decide) (fun c13 => ?_) (fun c13 => ?_)
      · replace h := xbr_t h c13
        clear c13
        refine x_iinc (v := (x2 + (J 1))) (L' := [(2, .int (x2 + (J 1))), (0, .ref a0), (1, .int r1)]) E dX11_mend_77 2 rfl rfl (by decide) rfl ?_
        refine x_goto (tgt := 44) E dX11_mend_80 (by decide) ?_
        refine x_sub (L' := [(0, .ref a0), (1, .int r1), (2, .int (x2 + (J 1)))]) [1, 2, 0] rfl ?_
        exact hk44 (M, (x2 + (J 1))) h
      · replace h := xbr_f h c13
        clear c13
        refine x_aload_n E dX11_mend_60 rfl 0 rfl ?_
        refine x_iload_n E dX11_mend_61 rfl 2 rfl ?_
        refine x_iconst (v := (J 0)) E dX11_mend_62 (by decide) ?_
        refine x_callVi (T := TX11) (N := 32) (t := 12) (As := [.int x2, .int (J 0)]) E mlX11_261 inX11_putNow seX11_putNow rfl ⟨by decide, by decide⟩ (tX11_putNow h) (kX11_putNow l z D cA a0 x2 (J 0) M _ h) rfl ⟨rfl, rfl⟩ ⟨Nat.le_of_ble_eq_true rfl, Nat.le_of_ble_eq_true rfl⟩ ⟨(Nat.le_of_ble_eq_true rfl), (Nat.le_of_ble_eq_true rfl)⟩ (Nat.le_of_ble_eq_true rfl) rfl dX11_mend_63 (fun r14 M15 h => ?_)
        refine x_if_ne (tgt := 77) E dX11_mend_66 (by decide) (fun c16 => ?_) (fun c16 => ?_)
        · replace h := xbr_f h c16
          clear c16
          refine x_iinc (v := (x2 + (J 1))) (L' := [(2, .int (x2 + (J 1))), (0, .ref a0), (1, .int r1)]) E dX11_mend_77 2 rfl rfl (by decide) rfl ?_
          refine x_goto (tgt := 44) E dX11_mend_80 (by decide) ?_
          refine x_sub (L' := [(0, .ref a0), (1, .int r1), (2, .int (x2 + (J 1)))]) [1, 2, 0] rfl ?_
          exact hk44 (M15, (x2 + (J 1))) h
        · replace h := xbr_t h c16
          clear c16
          refine x_aload_n E dX11_mend_69 rfl 0 rfl ?_
          refine x_callVv (T := TX11) (N := 32) (t := 12) (As := []) E mlX11_264 inX11_back seX11_back rfl ⟨by decide, by decide⟩ (tX11_back h) (kX11_back l z D cA a0 M15 _ h) rfl ⟨rfl, rfl⟩ ⟨Nat.le_of_ble_eq_true rfl, Nat.le_of_ble_eq_true rfl⟩ ⟨(Nat.le_of_ble_eq_true rfl), (Nat.le_of_ble_eq_true rfl)⟩ (Nat.le_of_ble_eq_true rfl) rfl dX11_mend_70 (fun M18 h => ?_)
          refine x_sipush (v := (J (-1003))) E dX11_mend_73 (by decide) ?_
          exact x_iret E hr hlk dX11_mend_76 h
  · replace h := xbr_f h c6
    clear c6
    refine x_iload_n E dX11_mend_19 rfl 1 rfl ?_
    refine x_iload_n E dX11_mend_20 rfl 2 rfl ?_
    refine x_callSi (As := [.int r1, .int x2]) E mlX11_276 rfl stX11_has (kX11_has l z D cA r1 x2 M _ h) rfl ⟨rfl, rfl⟩ ⟨Nat.le_of_ble_eq_true rfl, Nat.le_of_ble_eq_true rfl⟩ ⟨(Nat.le_of_ble_eq_true rfl), (Nat.le_of_ble_eq_true rfl)⟩ (Nat.le_of_ble_eq_true rfl) rfl dX11_mend_21 (x_pure (fun r19 h => ?_))
    refine x_if_eq (tgt := 36) E dX11_mend_24 (by decide) (fun c21 => ?_) (fun c21 => ?_)
    · replace h := xbr_t h c21
      clear c21
      refine x_iinc (v := (x2 + (J 1))) (L' := [(2, .int (x2 + (J 1))), (0, .ref a0), (1, .int r1)]) E dX11_mend_36 2 rfl rfl (by decide) rfl ?_
      refine x_goto (tgt := 11) E dX11_mend_39 (by decide) ?_
      refine x_sub (L' := [(0, .ref a0), (1, .int r1), (2, .int (x2 + (J 1)))]) [1, 2, 0] rfl ?_
      exact hk11 (M, (x2 + (J 1))) h
    · replace h := xbr_f h c21
      clear c21
      refine x_aload_n E dX11_mend_27 rfl 0 rfl ?_
      refine x_aload_n E dX11_mend_28 rfl 0 rfl ?_
      refine x_iload_n E dX11_mend_29 rfl 2 rfl ?_
      refine x_callVi (T := TX11) (N := 32) (t := 12) (As := [.int x2]) E mlX11_167 inX11_placeOf seX11_placeOf rfl ⟨by decide, by decide⟩ (tX11_placeOf h) (kX11_placeOf l z D cA a0 x2 M _ h) rfl ⟨rfl, rfl⟩ ⟨Nat.le_of_ble_eq_true rfl, Nat.le_of_ble_eq_true rfl⟩ ⟨(Nat.le_of_ble_eq_true rfl), (Nat.le_of_ble_eq_true rfl)⟩ (Nat.le_of_ble_eq_true rfl) rfl dX11_mend_30 (x_pure (fun r22 h => ?_))
      refine x_callVv (T := TX11) (N := 32) (t := 12) (As := [.int r22]) E mlX11_267 inX11_remove seX11_remove rfl ⟨by decide, by decide⟩ (tX11_remove h) (kX11_remove l z D cA a0 r22 M _ h) rfl ⟨rfl, rfl⟩ ⟨Nat.le_of_ble_eq_true rfl, Nat.le_of_ble_eq_true rfl⟩ ⟨(Nat.le_of_ble_eq_true rfl), (Nat.le_of_ble_eq_true rfl)⟩ (Nat.le_of_ble_eq_true rfl) rfl dX11_mend_33 (fun M25 h => ?_)
      refine x_iinc (v := (x2 + (J 1))) (L' := [(2, .int (x2 + (J 1))), (0, .ref a0), (1, .int r1)]) E dX11_mend_36 2 rfl rfl (by decide) rfl ?_
      refine x_goto (tgt := 11) E dX11_mend_39 (by decide) ?_
      refine x_sub (L' := [(0, .ref a0), (1, .int r1), (2, .int (x2 + (J 1)))]) [1, 2, 0] rfl ?_
      exact hk11 (M25, (x2 + (J 1))) h
theorem dX11_guess_0 : decode cX11_guess 0 = .ok (.aload_n 0, 1) := by decide +kernel
theorem dX11_guess_1 : decode cX11_guess 1 = .ok (.iload_n 1, 1) := by decide +kernel
theorem dX11_guess_2 : decode cX11_guess 2 = .ok (.invokevirtual 163, 3) := by decide +kernel
theorem dX11_guess_5 : decode cX11_guess 5 = .ok (.ifCond .ne 7, 3) := by decide +kernel
theorem dX11_guess_8 : decode cX11_guess 8 = .ok (.sipush (-1001), 3) := by decide +kernel
theorem dX11_guess_11 : decode cX11_guess 11 = .ok (.ireturn, 1) := by decide +kernel
theorem dX11_guess_12 : decode cX11_guess 12 = .ok (.aload_n 0, 1) := by decide +kernel
theorem dX11_guess_13 : decode cX11_guess 13 = .ok (.iload_n 1, 1) := by decide +kernel
theorem dX11_guess_14 : decode cX11_guess 14 = .ok (.invokevirtual 167, 3) := by decide +kernel
theorem dX11_guess_17 : decode cX11_guess 17 = .ok (.istore_n 2, 1) := by decide +kernel
theorem dX11_guess_18 : decode cX11_guess 18 = .ok (.iload_n 2, 1) := by decide +kernel
theorem dX11_guess_19 : decode cX11_guess 19 = .ok (.ifCond .ge 7, 3) := by decide +kernel
theorem dX11_guess_22 : decode cX11_guess 22 = .ok (.sipush (-1003), 3) := by decide +kernel
theorem dX11_guess_25 : decode cX11_guess 25 = .ok (.ireturn, 1) := by decide +kernel
theorem dX11_guess_26 : decode cX11_guess 26 = .ok (.aload_n 0, 1) := by decide +kernel
theorem dX11_guess_27 : decode cX11_guess 27 = .ok (.invokevirtual 273, 3) := by decide +kernel
theorem dX11_guess_30 : decode cX11_guess 30 = .ok (.istore_n 3, 1) := by decide +kernel
theorem dX11_guess_31 : decode cX11_guess 31 = .ok (.iconst 0, 1) := by decide +kernel
theorem dX11_guess_32 : decode cX11_guess 32 = .ok (.istore 4, 2) := by decide +kernel
theorem dX11_guess_34 : decode cX11_guess 34 = .ok (.iload 4, 2) := by decide +kernel
theorem dX11_guess_36 : decode cX11_guess 36 = .ok (.iconst 5, 1) := by decide +kernel
theorem dX11_guess_37 : decode cX11_guess 37 = .ok (.if_icmp .ge 125, 3) := by decide +kernel
theorem dX11_guess_40 : decode cX11_guess 40 = .ok (.iconst 1, 1) := by decide +kernel
theorem dX11_guess_41 : decode cX11_guess 41 = .ok (.istore 5, 2) := by decide +kernel
theorem dX11_guess_43 : decode cX11_guess 43 = .ok (.iconst 0, 1) := by decide +kernel
theorem dX11_guess_44 : decode cX11_guess 44 = .ok (.istore 6, 2) := by decide +kernel
theorem dX11_guess_46 : decode cX11_guess 46 = .ok (.iload 6, 2) := by decide +kernel
theorem dX11_guess_48 : decode cX11_guess 48 = .ok (.aload_n 0, 1) := by decide +kernel
theorem dX11_guess_49 : decode cX11_guess 49 = .ok (.getfield 222, 3) := by decide +kernel
theorem dX11_guess_52 : decode cX11_guess 52 = .ok (.if_icmp .ge 96, 3) := by decide +kernel
theorem dX11_guess_55 : decode cX11_guess 55 = .ok (.iload 6, 2) := by decide +kernel
theorem dX11_guess_57 : decode cX11_guess 57 = .ok (.iload_n 2, 1) := by decide +kernel
theorem dX11_guess_58 : decode cX11_guess 58 = .ok (.if_icmp .eq 21, 3) := by decide +kernel
theorem dX11_guess_61 : decode cX11_guess 61 = .ok (.iload_n 3, 1) := by decide +kernel
theorem dX11_guess_62 : decode cX11_guess 62 = .ok (.aload_n 0, 1) := by decide +kernel
theorem dX11_guess_63 : decode cX11_guess 63 = .ok (.getfield 28, 3) := by decide +kernel
theorem dX11_guess_66 : decode cX11_guess 66 = .ok (.iload 6, 2) := by decide +kernel
theorem dX11_guess_68 : decode cX11_guess 68 = .ok (.iaload, 1) := by decide +kernel
theorem dX11_guess_69 : decode cX11_guess 69 = .ok (.invokestatic 276, 3) := by decide +kernel
theorem dX11_guess_72 : decode cX11_guess 72 = .ok (.ifCond .ne 7, 3) := by decide +kernel
theorem dX11_guess_75 : decode cX11_guess 75 = .ok (.iconst 1, 1) := by decide +kernel
theorem dX11_guess_76 : decode cX11_guess 76 = .ok (.goto 4, 3) := by decide +kernel
theorem dX11_guess_79 : decode cX11_guess 79 = .ok (.iconst 0, 1) := by decide +kernel
theorem dX11_guess_80 : decode cX11_guess 80 = .ok (.istore 7, 2) := by decide +kernel
theorem dX11_guess_82 : decode cX11_guess 82 = .ok (.iload 5, 2) := by decide +kernel
theorem dX11_guess_84 : decode cX11_guess 84 = .ok (.ifCond .eq 55, 3) := by decide +kernel
theorem dX11_guess_87 : decode cX11_guess 87 = .ok (.iload 7, 2) := by decide +kernel
theorem dX11_guess_89 : decode cX11_guess 89 = .ok (.ifCond .eq 46, 3) := by decide +kernel
theorem dX11_guess_92 : decode cX11_guess 92 = .ok (.iload 6, 2) := by decide +kernel
theorem dX11_guess_94 : decode cX11_guess 94 = .ok (.iload_n 2, 1) := by decide +kernel
theorem dX11_guess_95 : decode cX11_guess 95 = .ok (.if_icmp .ge 23, 3) := by decide +kernel
theorem dX11_guess_98 : decode cX11_guess 98 = .ok (.aload_n 0, 1) := by decide +kernel
theorem dX11_guess_99 : decode cX11_guess 99 = .ok (.aload_n 0, 1) := by decide +kernel
theorem dX11_guess_100 : decode cX11_guess 100 = .ok (.getfield 28, 3) := by decide +kernel
theorem dX11_guess_103 : decode cX11_guess 103 = .ok (.iload 6, 2) := by decide +kernel
theorem dX11_guess_105 : decode cX11_guess 105 = .ok (.iaload, 1) := by decide +kernel
theorem dX11_guess_106 : decode cX11_guess 106 = .ok (.iload_n 1, 1) := by decide +kernel
theorem dX11_guess_107 : decode cX11_guess 107 = .ok (.iload 4, 2) := by decide +kernel
theorem dX11_guess_109 : decode cX11_guess 109 = .ok (.invokevirtual 214, 3) := by decide +kernel
theorem dX11_guess_112 : decode cX11_guess 112 = .ok (.ifCond .eq 27, 3) := by decide +kernel
theorem dX11_guess_115 : decode cX11_guess 115 = .ok (.goto 20, 3) := by decide +kernel
theorem dX11_guess_118 : decode cX11_guess 118 = .ok (.aload_n 0, 1) := by decide +kernel
theorem dX11_guess_119 : decode cX11_guess 119 = .ok (.iload_n 1, 1) := by decide +kernel
theorem dX11_guess_120 : decode cX11_guess 120 = .ok (.aload_n 0, 1) := by decide +kernel
theorem dX11_guess_121 : decode cX11_guess 121 = .ok (.getfield 28, 3) := by decide +kernel
theorem dX11_guess_124 : decode cX11_guess 124 = .ok (.iload 6, 2) := by decide +kernel
theorem dX11_guess_126 : decode cX11_guess 126 = .ok (.iaload, 1) := by decide +kernel
theorem dX11_guess_127 : decode cX11_guess 127 = .ok (.iload 4, 2) := by decide +kernel
theorem dX11_guess_129 : decode cX11_guess 129 = .ok (.invokevirtual 214, 3) := by decide +kernel
theorem dX11_guess_132 : decode cX11_guess 132 = .ok (.ifCond .eq 7, 3) := by decide +kernel
theorem dX11_guess_135 : decode cX11_guess 135 = .ok (.iconst 1, 1) := by decide +kernel
theorem dX11_guess_136 : decode cX11_guess 136 = .ok (.goto 4, 3) := by decide +kernel
theorem dX11_guess_139 : decode cX11_guess 139 = .ok (.iconst 0, 1) := by decide +kernel
theorem dX11_guess_140 : decode cX11_guess 140 = .ok (.istore 5, 2) := by decide +kernel
theorem dX11_guess_142 : decode cX11_guess 142 = .ok (.iinc 6 1, 3) := by decide +kernel
theorem dX11_guess_145 : decode cX11_guess 145 = .ok (.goto (-99), 3) := by decide +kernel
theorem dX11_guess_148 : decode cX11_guess 148 = .ok (.iload 5, 2) := by decide +kernel
theorem dX11_guess_150 : decode cX11_guess 150 = .ok (.ifCond .eq 6, 3) := by decide +kernel
theorem dX11_guess_153 : decode cX11_guess 153 = .ok (.iload 4, 2) := by decide +kernel
theorem dX11_guess_155 : decode cX11_guess 155 = .ok (.ireturn, 1) := by decide +kernel
theorem dX11_guess_156 : decode cX11_guess 156 = .ok (.iinc 4 1, 3) := by decide +kernel
theorem dX11_guess_159 : decode cX11_guess 159 = .ok (.goto (-125), 3) := by decide +kernel
theorem dX11_guess_162 : decode cX11_guess 162 = .ok (.iconst (-1), 1) := by decide +kernel
theorem dX11_guess_163 : decode cX11_guess 163 = .ok (.ireturn, 1) := by decide +kernel
set_option maxHeartbeats 4000000 in
set_option maxRecDepth 100000 in
theorem kX11_guess (l : Launch) (z : Nat) (D : va_G) (cA : Nat → ClassId) (a0 : Nat) (x1 : Int32) (M : Mem) (K : Int32 → Mem → Prop) (h : PX11_guess a0 x1 M K) : Met l yX11_guess (.code yX11_guess cX11_guess 8 (some .int) :: gtbl) ({ frames := 5, cells := 0, slots := 0, locals := 120 } : Room) (va_Pc [.ref a0, .int x1] (xB z D cA M)) (va_Qi K (xWd z D cA) (xA z)) 0 0 (xA z) := by
  refine x_met (by decide +kernel) (Nat.le_of_ble_eq_true rfl) (L0 := [(0, .ref a0), (1, .int x1)]) rfl ?_
  intro p e s m args below meth c E hr hlk hnm
  have E : xE RX11 cX11_guess 8 D cA p s m args c := E
  replace h := h.2
  refine x_aload_n E dX11_guess_0 rfl 0 rfl ?_
  refine x_iload_n E dX11_guess_1 rfl 1 rfl ?_
  refine x_callVi (T := TX11) (N := 32) (t := 12) (As := [.int x1]) E mlX11_163 inX11_isBook seX11_isBook rfl ⟨by decide, by decide⟩ (tX11_isBook h) (kX11_isBook l z D cA a0 x1 M _ h) rfl ⟨rfl, rfl⟩ ⟨Nat.le_of_ble_eq_true rfl, Nat.le_of_ble_eq_true rfl⟩ ⟨(Nat.le_of_ble_eq_true rfl), (Nat.le_of_ble_eq_true rfl)⟩ (Nat.le_of_ble_eq_true rfl) rfl dX11_guess_2 (x_pure (fun r1 h => ?_))
  refine x_if_ne (tgt := 12) E dX11_guess_5 (by decide) (fun c3 => ?_) (fun c3 => ?_)
  · replace h := xbr_f h c3
    clear c3
    refine x_aload_n E dX11_guess_12 rfl 0 rfl ?_
    refine x_iload_n E dX11_guess_13 rfl 1 rfl ?_
    refine x_callVi (T := TX11) (N := 32) (t := 12) (As := [.int x1]) E mlX11_167 inX11_placeOf seX11_placeOf rfl ⟨by decide, by decide⟩ (tX11_placeOf h) (kX11_placeOf l z D cA a0 x1 M _ h) rfl ⟨rfl, rfl⟩ ⟨Nat.le_of_ble_eq_true rfl, Nat.le_of_ble_eq_true rfl⟩ ⟨(Nat.le_of_ble_eq_true rfl), (Nat.le_of_ble_eq_true rfl)⟩ (Nat.le_of_ble_eq_true rfl) rfl dX11_guess_14 (x_pure (fun r4 h => ?_))
    refine x_istore_n (L' := [(2, .int r4), (0, .ref a0), (1, .int x1)]) E dX11_guess_17 rfl (by decide) rfl ?_
    refine x_iload_n E dX11_guess_18 rfl 0 rfl ?_
    refine x_if_ge (tgt := 26) E dX11_guess_19 (by decide) (fun c6 => ?_) (fun c6 => ?_)
    · replace h := xbr_t h c6
      clear c6
      refine x_aload_n E dX11_guess_26 rfl 1 rfl ?_
      refine x_callVi (T := TX11) (N := 32) (t := 12) (As := []) E mlX11_273 inX11_findWrong seX11_findWrong rfl ⟨by decide, by decide⟩ (tX11_findWrong h) (kX11_findWrong l z D cA a0 M _ h) rfl ⟨rfl, rfl⟩ ⟨Nat.le_of_ble_eq_true rfl, Nat.le_of_ble_eq_true rfl⟩ ⟨(Nat.le_of_ble_eq_true rfl), (Nat.le_of_ble_eq_true rfl)⟩ (Nat.le_of_ble_eq_true rfl) rfl dX11_guess_27 (fun r7 M8 h => ?_)
      refine x_istore_n (L' := [(3, .int r7), (2, .int r4), (0, .ref a0), (1, .int x1)]) E dX11_guess_30 rfl (by decide) rfl ?_
      refine x_iconst (v := (J 0)) E dX11_guess_31 (by decide) ?_
      refine x_istore (L' := [(4, .int (J 0)), (3, .int r7), (2, .int r4), (0, .ref a0), (1, .int x1)]) E dX11_guess_32 (by decide) rfl ?_
      refine x_sub (L' := [(0, .ref a0), (1, .int x1), (2, .int r4), (3, .int r7), (4, .int (J 0))]) [3, 4, 2, 1, 0] rfl ?_
      refine lp_sound (T := fun sv => xG p l e ({ frames := 5, cells := 0, slots := 0, locals := 120 } : Room) s m args below meth c (MQ below (va_Qi K (xWd z D cA) (xA z)) args s 0 0 (xA z)) 8 z D cA M8 (0) (0) 34 [(0, .ref a0), (1, .int x1), (2, .int r4), (3, .int r7), (4, .int sv)] []) ?_ (J 0) h
      clear h
      intro kc34 hk34 sv h
      obtain ⟨x4, esv⟩ : ∃ y, y = sv := ⟨_, rfl⟩
      subst esv
      replace h : CX11_guess_34 K M8 a0 x1 r4 r7 kc34 x4 := h
      try dsimp only
      refine x_iload E dX11_guess_34 4 rfl ?_
      refine x_iconst (v := (J 5)) E dX11_guess_36 (by decide) ?_
      refine x_icmp_ge (tgt := 162) E dX11_guess_37 (by decide) (fun c9 => ?_) (fun c9 => ?_)
      · replace h := xbr_t h c9
        clear c9
        refine x_iconst (v := (J (-1))) E dX11_guess_162 (by decide) ?_
        exact x_iret E hr hlk dX11_guess_163 h
      · replace h := xbr_f h c9
        clear c9
        refine x_iconst (v := (J 1)) E dX11_guess_40 (by decide) ?_
        refine x_istore (L' := [(5, .int (J 1)), (0, .ref a0), (1, .int x1), (2, .int r4), (3, .int r7), (4, .int x4)]) E dX11_guess_41 (by decide) rfl ?_
        refine x_iconst (v := (J 0)) E dX11_guess_43 (by decide) ?_
        refine x_istore (L' := [(6, .int (J 0)), (5, .int (J 1)), (0, .ref a0), (1, .int x1), (2, .int r4), (3, .int r7), (4, .int x4)]) E dX11_guess_44 (by decide) rfl ?_
        refine x_sub (L' := [(0, .ref a0), (1, .int x1), (2, .int r4), (3, .int r7), (4, .int x4), (5, .int (J 1)), (6, .int (J 0))]) [2, 3, 4, 5, 6, 1, 0] rfl ?_
        refine lp_sound (T := fun sv => xG p l e ({ frames := 5, cells := 0, slots := 0, locals := 120 } : Room) s m args below meth c (MQ below (va_Qi K (xWd z D cA) (xA z)) args s 0 0 (xA z)) 8 z D cA M8 (0) (0) 46 [(0, .ref a0), (1, .int x1), (2, .int r4), (3, .int r7), (4, .int x4), (5, .int sv.1), (6, .int sv.2)] []) ?_ ((J 1), (J 0)) h
        clear h
        intro kc46 hk46 sv h
        obtain ⟨x5, x6⟩ := sv
        replace h : CX11_guess_46 K kc34 M8 a0 x1 r4 r7 x4 kc46 x5 x6 := h
        try dsimp only
        have hJ80 : ∀ (j5 : Int32) (j6 : Int32) (s0 : Int32), JX11_guess_80 K kc34 kc46 M8 a0 x1 r4 r7 x4 j5 j6 s0 → xG p l e ({ frames := 5, cells := 0, slots := 0, locals := 120 } : Room) s m args below meth c (MQ below (va_Qi K (xWd z D cA) (xA z)) args s 0 0 (xA z)) 8 z D cA M8 (0) (0) 80 [(0, .ref a0), (1, .int x1), (2, .int r4), (3, .int r7), (4, .int x4), (5, .int j5), (6, .int j6)] [.int s0] := by
          intro j5 j6 s0 h
          refine x_istore (L' := [(7, .int s0), (0, .ref a0), (1, .int x1), (2, .int r4), (3, .int r7), (4, .int x4), (5, .int j5), (6, .int j6)]) E dX11_guess_80 (by decide) rfl ?_
          refine x_iload E dX11_guess_82 6 rfl ?_
          refine x_if_eq (tgt := 139) E dX11_guess_84 (by decide) (fun c14 => ?_) (fun c14 => ?_)
          · replace h := xbr_t h c14
            clear c14
            refine x_iconst (v := (J 0)) E dX11_guess_139 (by decide) ?_
            refine x_istore (L' := [(5, .int (J 0)), (7, .int s0), (0, .ref a0), (1, .int x1), (2, .int r4), (3, .int r7), (4, .int x4), (6, .int j6)]) E dX11_guess_140 (by decide) rfl ?_
            refine x_iinc (v := (j6 + (J 1))) (L' := [(6, .int (j6 + (J 1))), (5, .int (J 0)), (7, .int s0), (0, .ref a0), (1, .int x1), (2, .int r4), (3, .int r7), (4, .int x4)]) E dX11_guess_142 7 rfl rfl (by decide) rfl ?_
            refine x_goto (tgt := 46) E dX11_guess_145 (by decide) ?_
            refine x_sub (L' := [(0, .ref a0), (1, .int x1), (2, .int r4), (3, .int r7), (4, .int x4), (5, .int (J 0)), (6, .int (j6 + (J 1)))]) [3, 4, 5, 6, 7, 1, 0] rfl ?_
            exact hk46 ((J 0), (j6 + (J 1))) h
          · replace h := xbr_f h c14
            clear c14
            refine x_iload E dX11_guess_87 0 rfl ?_
            refine x_if_eq (tgt := 135) E dX11_guess_89 (by decide) (fun c15 => ?_) (fun c15 => ?_)
            · replace h := xbr_t h c15
              clear c15
              refine x_iconst (v := (J 1)) E dX11_guess_135 (by decide) ?_
              refine x_goto (tgt := 140) E dX11_guess_136 (by decide) ?_
              refine x_istore (L' := [(5, .int (J 1)), (7, .int s0), (0, .ref a0), (1, .int x1), (2, .int r4), (3, .int r7), (4, .int x4), (6, .int j6)]) E dX11_guess_140 (by decide) rfl ?_
              refine x_iinc (v := (j6 + (J 1))) (L' := [(6, .int (j6 + (J 1))), (5, .int (J 1)), (7, .int s0), (0, .ref a0), (1, .int x1), (2, .int r4), (3, .int r7), (4, .int x4)]) E dX11_guess_142 7 rfl rfl (by decide) rfl ?_
              refine x_goto (tgt := 46) E dX11_guess_145 (by decide) ?_
              refine x_sub (L' := [(0, .ref a0), (1, .int x1), (2, .int r4), (3, .int r7), (4, .int x4), (5, .int (J 1)), (6, .int (j6 + (J 1)))]) [3, 4, 5, 6, 7, 1, 0] rfl ?_
              exact hk46 ((J 1), (j6 + (J 1))) h
            · replace h := xbr_f h c15
              clear c15
              refine x_iload E dX11_guess_92 7 rfl ?_
              refine x_iload_n E dX11_guess_94 rfl 3 rfl ?_
              refine x_icmp_ge (tgt := 118) E dX11_guess_95 (by decide) (fun c16 => ?_) (fun c16 => ?_)
              · replace h := xbr_t h c16
                clear c16
                refine x_aload_n E dX11_guess_118 rfl 1 rfl ?_
                refine x_iload_n E dX11_guess_119 rfl 2 rfl ?_
                refine x_aload_n E dX11_guess_120 rfl 1 rfl ?_
                obtain ⟨hT, q17, hv, h⟩ := h
                refine x_get E flX11_28 dX11_guess_121 hT hv ?_
                clear hT hv
                refine x_iload E dX11_guess_124 7 rfl ?_
                obtain ⟨hT, hi, v18, hv, h⟩ := h
                refine x_iald E dX11_guess_126 hT hi hv ?_
                clear hT hi hv
                refine x_iload E dX11_guess_127 5 rfl ?_
                refine x_callVi (T := TX11) (N := 32) (t := 12) (As := [.int x1, .int v18, .int x4]) E mlX11_214 inX11_isAhead seX11_isAhead rfl ⟨by decide, by decide⟩ (tX11_isAhead h) (kX11_isAhead l z D cA a0 x1 v18 x4 M8 _ h) rfl ⟨rfl, rfl⟩ ⟨Nat.le_of_ble_eq_true rfl, Nat.le_of_ble_eq_true rfl⟩ ⟨(Nat.le_of_ble_eq_true rfl), (Nat.le_of_ble_eq_true rfl)⟩ (Nat.le_of_ble_eq_true rfl) rfl dX11_guess_129 (x_pure (fun r19 h => ?_))
                refine x_if_eq (tgt := 139) E dX11_guess_132 (by decide) (fun c21 => ?_) (fun c21 => ?_)
                · replace h := xbr_t h c21
                  clear c21
                  refine x_iconst (v := (J 0)) E dX11_guess_139 (by decide) ?_
                  refine x_istore (L' := [(5, .int (J 0)), (7, .int s0), (0, .ref a0), (1, .int x1), (2, .int r4), (3, .int r7), (4, .int x4), (6, .int j6)]) E dX11_guess_140 (by decide) rfl ?_
                  refine x_iinc (v := (j6 + (J 1))) (L' := [(6, .int (j6 + (J 1))), (5, .int (J 0)), (7, .int s0), (0, .ref a0), (1, .int x1), (2, .int r4), (3, .int r7), (4, .int x4)]) E dX11_guess_142 7 rfl rfl (by decide) rfl ?_
                  refine x_goto (tgt := 46) E dX11_guess_145 (by decide) ?_
                  refine x_sub (L' := [(0, .ref a0), (1, .int x1), (2, .int r4), (3, .int r7), (4, .int x4), (5, .int (J 0)), (6, .int (j6 + (J 1)))]) [3, 4, 5, 6, 7, 1, 0] rfl ?_
                  exact hk46 ((J 0), (j6 + (J 1))) h
                · replace h := xbr_f h c21
                  clear c21
                  refine x_iconst (v := (J 1)) E dX11_guess_135 (by decide) ?_
                  refine x_goto (tgt := 140) E dX11_guess_136 (by decide) ?_
                  refine x_istore (L' := [(5, .int (J 1)), (7, .int s0), (0, .ref a0), (1, .int x1), (2, .int r4), (3, .int r7), (4, .int x4), (6, .int j6)]) E dX11_guess_140 (by decide) rfl ?_
                  refine x_iinc (v := (j6 + (J 1))) (L' := [(6, .int (j6 + (J 1))), (5, .int (J 1)), (7, .int s0), (0, .ref a0), (1, .int x1), (2, .int r4), (3, .int r7), (4, .int x4)]) E dX11_guess_142 7 rfl rfl (by decide) rfl ?_
                  refine x_goto (tgt := 46) E dX11_guess_145 (by decide) ?_
                  refine x_sub (L' := [(0, .ref a0), (1, .int x1), (2, .int r4), (3, .int r7), (4, .int x4), (5, .int (J 1)), (6, .int (j6 + (J 1)))]) [3, 4, 5, 6, 7, 1, 0] rfl ?_
                  exact hk46 ((J 1), (j6 + (J 1))) h
              · replace h := xbr_f h c16
                clear c16
                refine x_aload_n E dX11_guess_98 rfl 1 rfl ?_
                refine x_aload_n E dX11_guess_99 rfl 1 rfl ?_
                obtain ⟨hT, q22, hv, h⟩ := h
                refine x_get E flX11_28 dX11_guess_100 hT hv ?_
                clear hT hv
                refine x_iload E dX11_guess_103 7 rfl ?_
                obtain ⟨hT, hi, v23, hv, h⟩ := h
                refine x_iald E dX11_guess_105 hT hi hv ?_
                clear hT hi hv
                refine x_iload_n E dX11_guess_106 rfl 2 rfl ?_
                refine x_iload E dX11_guess_107 5 rfl ?_
                refine x_callVi (T := TX11) (N := 32) (t := 12) (As := [.int v23, .int x1, .int x4]) E mlX11_214 inX11_isAhead seX11_isAhead rfl ⟨by decide, by decide⟩ (tX11_isAhead h) (kX11_isAhead l z D cA a0 v23 x1 x4 M8 _ h) rfl ⟨rfl, rfl⟩ ⟨Nat.le_of_ble_eq_true rfl, Nat.le_of_ble_eq_true rfl⟩ ⟨(Nat.le_of_ble_eq_true rfl), (Nat.le_of_ble_eq_true rfl)⟩ (Nat.le_of_ble_eq_true rfl) rfl dX11_guess_109 (x_pure (fun r24 h => ?_))
                refine x_if_eq (tgt := 139) E dX11_guess_112 (by decide) (fun c26 => ?_) (fun c26 => ?_)
                · replace h := xbr_t h c26
                  clear c26
                  refine x_iconst (v := (J 0)) E dX11_guess_139 (by decide) ?_
                  refine x_istore (L' := [(5, .int (J 0)), (7, .int s0), (0, .ref a0), (1, .int x1), (2, .int r4), (3, .int r7), (4, .int x4), (6, .int j6)]) E dX11_guess_140 (by decide) rfl ?_
                  refine x_iinc (v := (j6 + (J 1))) (L' := [(6, .int (j6 + (J 1))), (5, .int (J 0)), (7, .int s0), (0, .ref a0), (1, .int x1), (2, .int r4), (3, .int r7), (4, .int x4)]) E dX11_guess_142 7 rfl rfl (by decide) rfl ?_
                  refine x_goto (tgt := 46) E dX11_guess_145 (by decide) ?_
                  refine x_sub (L' := [(0, .ref a0), (1, .int x1), (2, .int r4), (3, .int r7), (4, .int x4), (5, .int (J 0)), (6, .int (j6 + (J 1)))]) [3, 4, 5, 6, 7, 1, 0] rfl ?_
                  exact hk46 ((J 0), (j6 + (J 1))) h
                · replace h := xbr_f h c26
                  clear c26
                  refine x_goto (tgt := 135) E dX11_guess_115 (by decide) ?_
                  refine x_iconst (v := (J 1)) E dX11_guess_135 (by decide) ?_
                  refine x_goto (tgt := 140) E dX11_guess_136 (by decide) ?_
                  refine x_istore (L' := [(5, .int (J 1)), (7, .int s0), (0, .ref a0), (1, .int x1), (2, .int r4), (3, .int r7), (4, .int x4), (6, .int j6)]) E dX11_guess_140 (by decide) rfl ?_
                  refine x_iinc (v := (j6 + (J 1))) (L' := [(6, .int (j6 + (J 1))), (5, .int (J 1)), (7, .int s0), (0, .ref a0), (1, .int x1), (2, .int r4), (3, .int r7), (4, .int x4)]) E dX11_guess_142 7 rfl rfl (by decide) rfl ?_
                  refine x_goto (tgt := 46) E dX11_guess_145 (by decide) ?_
                  refine x_sub (L' := [(0, .ref a0), (1, .int x1), (2, .int r4), (3, .int r7), (4, .int x4), (5, .int (J 1)), (6, .int (j6 + (J 1)))]) [3, 4, 5, 6, 7, 1, 0] rfl ?_
                  exact hk46 ((J 1), (j6 + (J 1))) h
        have hJ79 : ∀ (j5 : Int32) (j6 : Int32), JX11_guess_79 K kc34 kc46 M8 a0 x1 r4 r7 x4 j5 j6 → xG p l e ({ frames := 5, cells := 0, slots := 0, locals := 120 } : Room) s m args below meth c (MQ below (va_Qi K (xWd z D cA) (xA z)) args s 0 0 (xA z)) 8 z D cA M8 (0) (0) 79 [(0, .ref a0), (1, .int x1), (2, .int r4), (3, .int r7), (4, .int x4), (5, .int j5), (6, .int j6)] [] := by
          intro j5 j6 h
          refine x_iconst (v := (J 0)) E dX11_guess_79 (by decide) ?_
          exact hJ80 j5 j6 (J 0) h
        refine x_iload E dX11_guess_46 6 rfl ?_
        refine x_aload_n E dX11_guess_48 rfl 0 rfl ?_
        obtain ⟨hT, v10, hv, h⟩ := h
        refine x_get E flX11_222 dX11_guess_49 hT hv ?_
        clear hT hv
        refine x_icmp_ge (tgt := 148) E dX11_guess_52 (by decide) (fun c11 => ?_) (fun c11 => ?_)
        · replace h := xbr_t h c11
          clear c11
          refine x_iload E dX11_guess_148 5 rfl ?_
          refine x_if_eq (tgt := 156) E dX11_guess_150 (by decide) (fun c12 => ?_) (fun c12 => ?_)
          · replace h := xbr_t h c12
            clear c12
            refine x_iinc (v := (x4 + (J 1))) (L' := [(4, .int (x4 + (J 1))), (0, .ref a0), (1, .int x1), (2, .int r4), (3, .int r7), (5, .int x5), (6, .int x6)]) E dX11_guess_156 4 rfl rfl (by decide) rfl ?_
            refine x_goto (tgt := 34) E dX11_guess_159 (by decide) ?_
            refine x_sub (L' := [(0, .ref a0), (1, .int x1), (2, .int r4), (3, .int r7), (4, .int (x4 + (J 1)))]) [1, 2, 3, 4, 0] rfl ?_
            exact hk34 (x4 + (J 1)) h
          · replace h := xbr_f h c12
            clear c12
            refine x_iload E dX11_guess_153 4 rfl ?_
            exact x_iret E hr hlk dX11_guess_155 h
        · replace h := xbr_f h c11
          clear c11
          refine x_iload E dX11_guess_55 6 rfl ?_
          refine x_iload_n E dX11_guess_57 rfl 2 rfl ?_
          refine x_icmp_eq (tgt := 79) E dX11_guess_58 (by decide) (fun c13 => ?_) (fun c13 => ?_)
          · replace h := xbr_t h c13
            clear c13
            exact hJ79 x5 x6 h
          · replace h := xbr_f h c13
            clear c13
            refine x_iload_n E dX11_guess_61 rfl 3 rfl ?_
            refine x_aload_n E dX11_guess_62 rfl 0 rfl ?_
            obtain ⟨hT, q27, hv, h⟩ := h
            refine x_get E flX11_28 dX11_guess_63 hT hv ?_
            clear hT hv
            refine x_iload E dX11_guess_66 6 rfl ?_
            obtain ⟨hT, hi, v28, hv, h⟩ := h
            refine x_iald E dX11_guess_68 hT hi hv ?_
            clear hT hi hv
            refine x_callSi (As := [.int r7, .int v28]) E mlX11_276 rfl stX11_has (kX11_has l z D cA r7 v28 M8 _ h) rfl ⟨rfl, rfl⟩ ⟨Nat.le_of_ble_eq_true rfl, Nat.le_of_ble_eq_true rfl⟩ ⟨(Nat.le_of_ble_eq_true rfl), (Nat.le_of_ble_eq_true rfl)⟩ (Nat.le_of_ble_eq_true rfl) rfl dX11_guess_69 (x_pure (fun r29 h => ?_))
            refine x_if_ne (tgt := 79) E dX11_guess_72 (by decide) (fun c31 => ?_) (fun c31 => ?_)
            · replace h := xbr_f h c31
              clear c31
              exact hJ79 x5 x6 h
            · replace h := xbr_t h c31
              clear c31
              refine x_iconst (v := (J 1)) E dX11_guess_75 (by decide) ?_
              refine x_goto (tgt := 80) E dX11_guess_76 (by decide) ?_
              exact hJ80 x5 x6 (J 1) h
    · replace h := xbr_f h c6
      clear c6
      refine x_sipush (v := (J (-1003))) E dX11_guess_22 (by decide) ?_
      exact x_iret E hr hlk dX11_guess_25 h
  · replace h := xbr_t h c3
    clear c3
    refine x_sipush (v := (J (-1001))) E dX11_guess_8 (by decide) ?_
    exact x_iret E hr hlk dX11_guess_11 h
theorem dX11_carried_0 : decode cX11_carried 0 = .ok (.iconst 0, 1) := by decide +kernel
theorem dX11_carried_1 : decode cX11_carried 1 = .ok (.istore_n 1, 1) := by decide +kernel
theorem dX11_carried_2 : decode cX11_carried 2 = .ok (.iconst 0, 1) := by decide +kernel
theorem dX11_carried_3 : decode cX11_carried 3 = .ok (.istore_n 2, 1) := by decide +kernel
theorem dX11_carried_4 : decode cX11_carried 4 = .ok (.iload_n 2, 1) := by decide +kernel
theorem dX11_carried_5 : decode cX11_carried 5 = .ok (.aload_n 0, 1) := by decide +kernel
theorem dX11_carried_6 : decode cX11_carried 6 = .ok (.getfield 75, 3) := by decide +kernel
theorem dX11_carried_9 : decode cX11_carried 9 = .ok (.if_icmp .ge 124, 3) := by decide +kernel
theorem dX11_carried_12 : decode cX11_carried 12 = .ok (.aload_n 0, 1) := by decide +kernel
theorem dX11_carried_13 : decode cX11_carried 13 = .ok (.iload_n 2, 1) := by decide +kernel
theorem dX11_carried_14 : decode cX11_carried 14 = .ok (.invokevirtual 167, 3) := by decide +kernel
theorem dX11_carried_17 : decode cX11_carried 17 = .ok (.ifCond .ge 7, 3) := by decide +kernel
theorem dX11_carried_20 : decode cX11_carried 20 = .ok (.iconst (-1), 1) := by decide +kernel
theorem dX11_carried_21 : decode cX11_carried 21 = .ok (.goto 12, 3) := by decide +kernel
theorem dX11_carried_24 : decode cX11_carried 24 = .ok (.aload_n 0, 1) := by decide +kernel
theorem dX11_carried_25 : decode cX11_carried 25 = .ok (.aload_n 0, 1) := by decide +kernel
theorem dX11_carried_26 : decode cX11_carried 26 = .ok (.iload_n 2, 1) := by decide +kernel
theorem dX11_carried_27 : decode cX11_carried 27 = .ok (.invokevirtual 167, 3) := by decide +kernel
theorem dX11_carried_30 : decode cX11_carried 30 = .ok (.invokevirtual 174, 3) := by decide +kernel
theorem dX11_carried_33 : decode cX11_carried 33 = .ok (.istore_n 3, 1) := by decide +kernel
theorem dX11_carried_34 : decode cX11_carried 34 = .ok (.iconst (-1), 1) := by decide +kernel
theorem dX11_carried_35 : decode cX11_carried 35 = .ok (.istore 4, 2) := by decide +kernel
theorem dX11_carried_37 : decode cX11_carried 37 = .ok (.iconst 0, 1) := by decide +kernel
theorem dX11_carried_38 : decode cX11_carried 38 = .ok (.istore 5, 2) := by decide +kernel
theorem dX11_carried_40 : decode cX11_carried 40 = .ok (.iconst 0, 1) := by decide +kernel
theorem dX11_carried_41 : decode cX11_carried 41 = .ok (.istore 6, 2) := by decide +kernel
theorem dX11_carried_43 : decode cX11_carried 43 = .ok (.iload 6, 2) := by decide +kernel
theorem dX11_carried_45 : decode cX11_carried 45 = .ok (.bipush 8, 2) := by decide +kernel
theorem dX11_carried_47 : decode cX11_carried 47 = .ok (.if_icmp .ge 66, 3) := by decide +kernel
theorem dX11_carried_50 : decode cX11_carried 50 = .ok (.iload 5, 2) := by decide +kernel
theorem dX11_carried_52 : decode cX11_carried 52 = .ok (.istore 7, 2) := by decide +kernel
theorem dX11_carried_54 : decode cX11_carried 54 = .ok (.iload 7, 2) := by decide +kernel
theorem dX11_carried_56 : decode cX11_carried 56 = .ok (.iload 5, 2) := by decide +kernel
theorem dX11_carried_58 : decode cX11_carried 58 = .ok (.aload_n 0, 1) := by decide +kernel
theorem dX11_carried_59 : decode cX11_carried 59 = .ok (.getfield 50, 3) := by decide +kernel
theorem dX11_carried_62 : decode cX11_carried 62 = .ok (.iload 6, 2) := by decide +kernel
theorem dX11_carried_64 : decode cX11_carried 64 = .ok (.iaload, 1) := by decide +kernel
theorem dX11_carried_65 : decode cX11_carried 65 = .ok (.iadd, 1) := by decide +kernel
theorem dX11_carried_66 : decode cX11_carried 66 = .ok (.if_icmp .ge 29, 3) := by decide +kernel
theorem dX11_carried_69 : decode cX11_carried 69 = .ok (.aload_n 0, 1) := by decide +kernel
theorem dX11_carried_70 : decode cX11_carried 70 = .ok (.getfield 47, 3) := by decide +kernel
theorem dX11_carried_73 : decode cX11_carried 73 = .ok (.iload 7, 2) := by decide +kernel
theorem dX11_carried_75 : decode cX11_carried 75 = .ok (.iaload, 1) := by decide +kernel
theorem dX11_carried_76 : decode cX11_carried 76 = .ok (.iload_n 2, 1) := by decide +kernel
theorem dX11_carried_77 : decode cX11_carried 77 = .ok (.if_icmp .ne 8, 3) := by decide +kernel
theorem dX11_carried_80 : decode cX11_carried 80 = .ok (.iload 6, 2) := by decide +kernel
theorem dX11_carried_82 : decode cX11_carried 82 = .ok (.goto 5, 3) := by decide +kernel
theorem dX11_carried_85 : decode cX11_carried 85 = .ok (.iload 4, 2) := by decide +kernel
theorem dX11_carried_87 : decode cX11_carried 87 = .ok (.istore 4, 2) := by decide +kernel
theorem dX11_carried_89 : decode cX11_carried 89 = .ok (.iinc 7 1, 3) := by decide +kernel
theorem dX11_carried_92 : decode cX11_carried 92 = .ok (.goto (-38), 3) := by decide +kernel
theorem dX11_carried_95 : decode cX11_carried 95 = .ok (.iload 5, 2) := by decide +kernel
theorem dX11_carried_97 : decode cX11_carried 97 = .ok (.aload_n 0, 1) := by decide +kernel
theorem dX11_carried_98 : decode cX11_carried 98 = .ok (.getfield 50, 3) := by decide +kernel
theorem dX11_carried_101 : decode cX11_carried 101 = .ok (.iload 6, 2) := by decide +kernel
theorem dX11_carried_103 : decode cX11_carried 103 = .ok (.iaload, 1) := by decide +kernel
theorem dX11_carried_104 : decode cX11_carried 104 = .ok (.iadd, 1) := by decide +kernel
theorem dX11_carried_105 : decode cX11_carried 105 = .ok (.istore 5, 2) := by decide +kernel
theorem dX11_carried_107 : decode cX11_carried 107 = .ok (.iinc 6 1, 3) := by decide +kernel
theorem dX11_carried_110 : decode cX11_carried 110 = .ok (.goto (-67), 3) := by decide +kernel
theorem dX11_carried_113 : decode cX11_carried 113 = .ok (.iload_n 1, 1) := by decide +kernel
theorem dX11_carried_114 : decode cX11_carried 114 = .ok (.iload_n 3, 1) := by decide +kernel
theorem dX11_carried_115 : decode cX11_carried 115 = .ok (.iload 4, 2) := by decide +kernel
theorem dX11_carried_117 : decode cX11_carried 117 = .ok (.if_icmp .ne 7, 3) := by decide +kernel
theorem dX11_carried_120 : decode cX11_carried 120 = .ok (.iconst 0, 1) := by decide +kernel
theorem dX11_carried_121 : decode cX11_carried 121 = .ok (.goto 4, 3) := by decide +kernel
theorem dX11_carried_124 : decode cX11_carried 124 = .ok (.iconst 1, 1) := by decide +kernel
theorem dX11_carried_125 : decode cX11_carried 125 = .ok (.iadd, 1) := by decide +kernel
theorem dX11_carried_126 : decode cX11_carried 126 = .ok (.istore_n 1, 1) := by decide +kernel
theorem dX11_carried_127 : decode cX11_carried 127 = .ok (.iinc 2 1, 3) := by decide +kernel
theorem dX11_carried_130 : decode cX11_carried 130 = .ok (.goto (-126), 3) := by decide +kernel
theorem dX11_carried_133 : decode cX11_carried 133 = .ok (.iload_n 1, 1) := by decide +kernel
theorem dX11_carried_134 : decode cX11_carried 134 = .ok (.ireturn, 1) := by decide +kernel
set_option maxHeartbeats 4000000 in
set_option maxRecDepth 100000 in
theorem kX11_carried (l : Launch) (z : Nat) (D : va_G) (cA : Nat → ClassId) (a0 : Nat) (M : Mem) (K : Int32 → Prop) (h : PX11_carried a0 M K) : Met l yX11_carried (.code yX11_carried cX11_carried 8 (some .int) :: gtbl) ({ frames := 1, cells := 0, slots := 0, locals := 23 } : Room) (va_Pc [.ref a0] (xB z D cA M)) (va_Qi (fun r M1 => M1 = M ∧ K r) (xWd z D cA) (xA z)) 0 0 (xA z) := by
  refine x_met (by decide +kernel) (Nat.le_of_ble_eq_true rfl) (L0 := [(0, .ref a0)]) rfl ?_
  intro p e s m args below meth c E hr hlk hnm
  have E : xE RX11 cX11_carried 8 D cA p s m args c := E
  replace h := h.2
  refine x_iconst (v := (J 0)) E dX11_carried_0 (by decide) ?_
  refine x_istore_n (L' := [(1, .int (J 0)), (0, .ref a0)]) E dX11_carried_1 rfl (by decide) rfl ?_
  refine x_iconst (v := (J 0)) E dX11_carried_2 (by decide) ?_
  refine x_istore_n (L' := [(2, .int (J 0)), (1, .int (J 0)), (0, .ref a0)]) E dX11_carried_3 rfl (by decide) rfl ?_
  refine x_sub (L' := [(0, .ref a0), (1, .int (J 0)), (2, .int (J 0))]) [2, 1, 0] rfl ?_
  refine lp_sound (T := fun sv => xG p l e ({ frames := 1, cells := 0, slots := 0, locals := 23 } : Room) s m args below meth c (MQ below (va_Qi (fun r M1 => M1 = M ∧ K r) (xWd z D cA) (xA z)) args s 0 0 (xA z)) 8 z D cA M (0) (0) 4 [(0, .ref a0), (1, .int sv.1), (2, .int sv.2)] []) ?_ ((J 0), (J 0)) h
  clear h
  intro kc4 hk4 sv h
  obtain ⟨x1, x2⟩ := sv
  replace h : CX11_carried_4 K M a0 kc4 x1 x2 := h
  try dsimp only
  have hJ33 : ∀ (j1 : Int32) (j2 : Int32) (s0 : Int32), JX11_carried_33 K kc4 M a0 j1 j2 s0 → xG p l e ({ frames := 1, cells := 0, slots := 0, locals := 23 } : Room) s m args below meth c (MQ below (va_Qi (fun r M1 => M1 = M ∧ K r) (xWd z D cA) (xA z)) args s 0 0 (xA z)) 8 z D cA M (0) (0) 33 [(0, .ref a0), (1, .int j1), (2, .int j2)] [.int s0] := by
    intro j1 j2 s0 h
    refine x_istore_n (L' := [(3, .int s0), (0, .ref a0), (1, .int j1), (2, .int j2)]) E dX11_carried_33 rfl (by decide) rfl ?_
    refine x_iconst (v := (J (-1))) E dX11_carried_34 (by decide) ?_
    refine x_istore (L' := [(4, .int (J (-1))), (3, .int s0), (0, .ref a0), (1, .int j1), (2, .int j2)]) E dX11_carried_35 (by decide) rfl ?_
    refine x_iconst (v := (J 0)) E dX11_carried_37 (by decide) ?_
    refine x_istore (L' := [(5, .int (J 0)), (4, .int (J (-1))), (3, .int s0), (0, .ref a0), (1, .int j1), (2, .int j2)]) E dX11_carried_38 (by decide) rfl ?_
    refine x_iconst (v := (J 0)) E dX11_carried_40 (by decide) ?_
    refine x_istore (L' := [(6, .int (J 0)), (5, .int (J 0)), (4, .int (J (-1))), (3, .int s0), (0, .ref a0), (1, .int j1), (2, .int j2)]) E dX11_carried_41 (by decide) rfl ?_
    refine x_sub (L' := [(0, .ref a0), (1, .int j1), (2, .int j2), (3, .int s0), (4, .int (J (-1))), (5, .int (J 0)), (6, .int (J 0))]) [4, 5, 6, 3, 2, 1, 0] rfl ?_
    refine lp_sound (T := fun sv => xG p l e ({ frames := 1, cells := 0, slots := 0, locals := 23 } : Room) s m args below meth c (MQ below (va_Qi (fun r M1 => M1 = M ∧ K r) (xWd z D cA) (xA z)) args s 0 0 (xA z)) 8 z D cA M (0) (0) 43 [(0, .ref a0), (1, .int j1), (2, .int j2), (3, .int s0), (4, .int sv.1), (5, .int sv.2.1), (6, .int sv.2.2)] []) ?_ ((J (-1)), (J 0), (J 0)) h
    clear h
    intro kc43 hk43 sv h
    obtain ⟨x4, x5, x6⟩ := sv
    replace h : CX11_carried_43 K kc4 M a0 j1 j2 s0 kc43 x4 x5 x6 := h
    try dsimp only
    refine x_iload E dX11_carried_43 6 rfl ?_
    refine x_bipush (v := (J 8)) E dX11_carried_45 (by decide) ?_
    refine x_icmp_ge (tgt := 113) E dX11_carried_47 (by decide) (fun c10 => ?_) (fun c10 => ?_)
    · replace h := xbr_t h c10
      clear c10
      refine x_iload_n E dX11_carried_113 rfl 1 rfl ?_
      refine x_iload_n E dX11_carried_114 rfl 3 rfl ?_
      refine x_iload E dX11_carried_115 4 rfl ?_
      refine x_icmp_ne (tgt := 124) E dX11_carried_117 (by decide) (fun c11 => ?_) (fun c11 => ?_)
      · replace h := xbr_f h c11
        clear c11
        refine x_iconst (v := (J 1)) E dX11_carried_124 (by decide) ?_
        refine x_iadd E dX11_carried_125 ?_
        obtain ⟨y12, ey12, h⟩ := h
        refine x_top (v := .int y12) (congrArg _ ey12) ?_
        clear ey12
        refine x_istore_n (L' := [(1, .int y12), (0, .ref a0), (2, .int j2), (3, .int s0), (4, .int x4), (5, .int x5), (6, .int x6)]) E dX11_carried_126 rfl (by decide) rfl ?_
        refine x_iinc (v := (j2 + (J 1))) (L' := [(2, .int (j2 + (J 1))), (1, .int y12), (0, .ref a0), (3, .int s0), (4, .int x4), (5, .int x5), (6, .int x6)]) E dX11_carried_127 2 rfl rfl (by decide) rfl ?_
        refine x_goto (tgt := 4) E dX11_carried_130 (by decide) ?_
        refine x_sub (L' := [(0, .ref a0), (1, .int y12), (2, .int (j2 + (J 1)))]) [2, 1, 0] rfl ?_
        exact hk4 (y12, (j2 + (J 1))) h
      · replace h := xbr_t h c11
        clear c11
        refine x_iconst (v := (J 0)) E dX11_carried_120 (by decide) ?_
        refine x_goto (tgt := 125) E dX11_carried_121 (by decide) ?_
        refine x_iadd E dX11_carried_125 ?_
        obtain ⟨y13, ey13, h⟩ := h
        refine x_top (v := .int y13) (congrArg _ ey13) ?_
        clear ey13
        refine x_istore_n (L' := [(1, .int y13), (0, .ref a0), (2, .int j2), (3, .int s0), (4, .int x4), (5, .int x5), (6, .int x6)]) E dX11_carried_126 rfl (by decide) rfl ?_
        refine x_iinc (v := (j2 + (J 1))) (L' := [(2, .int (j2 + (J 1))), (1, .int y13), (0, .ref a0), (3, .int s0), (4, .int x4), (5, .int x5), (6, .int x6)]) E dX11_carried_127 2 rfl rfl (by decide) rfl ?_
        refine x_goto (tgt := 4) E dX11_carried_130 (by decide) ?_
        refine x_sub (L' := [(0, .ref a0), (1, .int y13), (2, .int (j2 + (J 1)))]) [2, 1, 0] rfl ?_
        exact hk4 (y13, (j2 + (J 1))) h
    · replace h := xbr_f h c10
      clear c10
      refine x_iload E dX11_carried_50 5 rfl ?_
      refine x_istore (L' := [(7, .int x5), (0, .ref a0), (1, .int j1), (2, .int j2), (3, .int s0), (4, .int x4), (5, .int x5), (6, .int x6)]) E dX11_carried_52 (by decide) rfl ?_
      refine x_sub (L' := [(0, .ref a0), (1, .int j1), (2, .int j2), (3, .int s0), (4, .int x4), (5, .int x5), (6, .int x6), (7, .int x5)]) [1, 2, 3, 4, 5, 6, 7, 0] rfl ?_
      refine lp_sound (T := fun sv => xG p l e ({ frames := 1, cells := 0, slots := 0, locals := 23 } : Room) s m args below meth c (MQ below (va_Qi (fun r M1 => M1 = M ∧ K r) (xWd z D cA) (xA z)) args s 0 0 (xA z)) 8 z D cA M (0) (0) 54 [(0, .ref a0), (1, .int j1), (2, .int j2), (3, .int s0), (4, .int sv.1), (5, .int x5), (6, .int x6), (7, .int sv.2)] []) ?_ (x4, x5) h
      clear h
      intro kc54 hk54 sv h
      obtain ⟨x4, x7⟩ := sv
      replace h : CX11_carried_54 K kc4 kc43 M a0 j1 j2 s0 x5 x6 kc54 x4 x7 := h
      try dsimp only
      refine x_iload E dX11_carried_54 7 rfl ?_
      refine x_iload E dX11_carried_56 5 rfl ?_
      refine x_aload_n E dX11_carried_58 rfl 0 rfl ?_
      obtain ⟨hT, q14, hv, h⟩ := h
      refine x_get E flX11_50 dX11_carried_59 hT hv ?_
      clear hT hv
      refine x_iload E dX11_carried_62 6 rfl ?_
      obtain ⟨hT, hi, v15, hv, h⟩ := h
      refine x_iald E dX11_carried_64 hT hi hv ?_
      clear hT hi hv
      refine x_iadd E dX11_carried_65 ?_
      refine x_icmp_ge (tgt := 95) E dX11_carried_66 (by decide) (fun c16 => ?_) (fun c16 => ?_)
      · replace h := xbr_t h c16
        clear c16
        refine x_iload E dX11_carried_95 5 rfl ?_
        refine x_aload_n E dX11_carried_97 rfl 0 rfl ?_
        obtain ⟨hT, q17, hv, h⟩ := h
        refine x_get E flX11_50 dX11_carried_98 hT hv ?_
        clear hT hv
        refine x_iload E dX11_carried_101 6 rfl ?_
        obtain ⟨hT, hi, v18, hv, h⟩ := h
        refine x_iald E dX11_carried_103 hT hi hv ?_
        clear hT hi hv
        refine x_iadd E dX11_carried_104 ?_
        obtain ⟨y19, ey19, h⟩ := h
        refine x_top (v := .int y19) (congrArg _ ey19) ?_
        clear ey19
        refine x_istore (L' := [(5, .int y19), (0, .ref a0), (1, .int j1), (2, .int j2), (3, .int s0), (4, .int x4), (6, .int x6), (7, .int x7)]) E dX11_carried_105 (by decide) rfl ?_
        refine x_iinc (v := (x6 + (J 1))) (L' := [(6, .int (x6 + (J 1))), (5, .int y19), (0, .ref a0), (1, .int j1), (2, .int j2), (3, .int s0), (4, .int x4), (7, .int x7)]) E dX11_carried_107 6 rfl rfl (by decide) rfl ?_
        refine x_goto (tgt := 43) E dX11_carried_110 (by decide) ?_
        refine x_sub (L' := [(0, .ref a0), (1, .int j1), (2, .int j2), (3, .int s0), (4, .int x4), (5, .int y19), (6, .int (x6 + (J 1)))]) [2, 3, 4, 5, 6, 1, 0] rfl ?_
        exact hk43 (x4, y19, (x6 + (J 1))) h
      · replace h := xbr_f h c16
        clear c16
        refine x_aload_n E dX11_carried_69 rfl 0 rfl ?_
        obtain ⟨hT, q20, hv, h⟩ := h
        refine x_get E flX11_47 dX11_carried_70 hT hv ?_
        clear hT hv
        refine x_iload E dX11_carried_73 7 rfl ?_
        obtain ⟨hT, hi, v21, hv, h⟩ := h
        refine x_iald E dX11_carried_75 hT hi hv ?_
        clear hT hi hv
        refine x_iload_n E dX11_carried_76 rfl 2 rfl ?_
        refine x_icmp_ne (tgt := 85) E dX11_carried_77 (by decide) (fun c22 => ?_) (fun c22 => ?_)
        · replace h := xbr_f h c22
          clear c22
          refine x_iload E dX11_carried_85 4 rfl ?_
          refine x_istore (L' := [(4, .int x4), (0, .ref a0), (1, .int j1), (2, .int j2), (3, .int s0), (5, .int x5), (6, .int x6), (7, .int x7)]) E dX11_carried_87 (by decide) rfl ?_
          refine x_iinc (v := (x7 + (J 1))) (L' := [(7, .int (x7 + (J 1))), (4, .int x4), (0, .ref a0), (1, .int j1), (2, .int j2), (3, .int s0), (5, .int x5), (6, .int x6)]) E dX11_carried_89 7 rfl rfl (by decide) rfl ?_
          refine x_goto (tgt := 54) E dX11_carried_92 (by decide) ?_
          refine x_sub (L' := [(0, .ref a0), (1, .int j1), (2, .int j2), (3, .int s0), (4, .int x4), (5, .int x5), (6, .int x6), (7, .int (x7 + (J 1)))]) [2, 3, 4, 5, 1, 6, 7, 0] rfl ?_
          exact hk54 (x4, (x7 + (J 1))) h
        · replace h := xbr_t h c22
          clear c22
          refine x_iload E dX11_carried_80 6 rfl ?_
          refine x_goto (tgt := 87) E dX11_carried_82 (by decide) ?_
          refine x_istore (L' := [(4, .int x6), (0, .ref a0), (1, .int j1), (2, .int j2), (3, .int s0), (5, .int x5), (6, .int x6), (7, .int x7)]) E dX11_carried_87 (by decide) rfl ?_
          refine x_iinc (v := (x7 + (J 1))) (L' := [(7, .int (x7 + (J 1))), (4, .int x6), (0, .ref a0), (1, .int j1), (2, .int j2), (3, .int s0), (5, .int x5), (6, .int x6)]) E dX11_carried_89 7 rfl rfl (by decide) rfl ?_
          refine x_goto (tgt := 54) E dX11_carried_92 (by decide) ?_
          refine x_sub (L' := [(0, .ref a0), (1, .int j1), (2, .int j2), (3, .int s0), (4, .int x6), (5, .int x5), (6, .int x6), (7, .int (x7 + (J 1)))]) [2, 3, 4, 5, 1, 6, 7, 0] rfl ?_
          exact hk54 (x6, (x7 + (J 1))) h
  refine x_iload_n E dX11_carried_4 rfl 2 rfl ?_
  refine x_aload_n E dX11_carried_5 rfl 0 rfl ?_
  obtain ⟨hT, v1, hv, h⟩ := h
  refine x_get E flX11_75 dX11_carried_6 hT hv ?_
  clear hT hv
  refine x_icmp_ge (tgt := 133) E dX11_carried_9 (by decide) (fun c2 => ?_) (fun c2 => ?_)
  · replace h := xbr_t h c2
    clear c2
    refine x_iload_n E dX11_carried_133 rfl 1 rfl ?_
    exact x_iret E hr hlk dX11_carried_134 ⟨rfl, h⟩
  · replace h := xbr_f h c2
    clear c2
    refine x_aload_n E dX11_carried_12 rfl 0 rfl ?_
    refine x_iload_n E dX11_carried_13 rfl 2 rfl ?_
    refine x_callVi (T := TX11) (N := 32) (t := 12) (As := [.int x2]) E mlX11_167 inX11_placeOf seX11_placeOf rfl ⟨by decide, by decide⟩ (tX11_placeOf h) (kX11_placeOf l z D cA a0 x2 M _ h) rfl ⟨rfl, rfl⟩ ⟨Nat.le_of_ble_eq_true rfl, Nat.le_of_ble_eq_true rfl⟩ ⟨(Nat.le_of_ble_eq_true rfl), (Nat.le_of_ble_eq_true rfl)⟩ (Nat.le_of_ble_eq_true rfl) rfl dX11_carried_14 (x_pure (fun r3 h => ?_))
    refine x_if_ge (tgt := 24) E dX11_carried_17 (by decide) (fun c5 => ?_) (fun c5 => ?_)
    · replace h := xbr_t h c5
      clear c5
      refine x_aload_n E dX11_carried_24 rfl 0 rfl ?_
      refine x_aload_n E dX11_carried_25 rfl 0 rfl ?_
      refine x_iload_n E dX11_carried_26 rfl 2 rfl ?_
      refine x_callVi (T := TX11) (N := 32) (t := 12) (As := [.int x2]) E mlX11_167 inX11_placeOf seX11_placeOf rfl ⟨by decide, by decide⟩ (tX11_placeOf h) (kX11_placeOf l z D cA a0 x2 M _ h) rfl ⟨rfl, rfl⟩ ⟨Nat.le_of_ble_eq_true rfl, Nat.le_of_ble_eq_true rfl⟩ ⟨(Nat.le_of_ble_eq_true rfl), (Nat.le_of_ble_eq_true rfl)⟩ (Nat.le_of_ble_eq_true rfl) rfl dX11_carried_27 (x_pure (fun r6 h => ?_))
      refine x_callVi (T := TX11) (N := 32) (t := 12) (As := [.int r6]) E mlX11_174 inX11_shelfOf seX11_shelfOf rfl ⟨by decide, by decide⟩ (tX11_shelfOf h) (kX11_shelfOf l z D cA a0 r6 M _ h) rfl ⟨rfl, rfl⟩ ⟨Nat.le_of_ble_eq_true rfl, Nat.le_of_ble_eq_true rfl⟩ ⟨(Nat.le_of_ble_eq_true rfl), (Nat.le_of_ble_eq_true rfl)⟩ (Nat.le_of_ble_eq_true rfl) rfl dX11_carried_30 (x_pure (fun r8 h => ?_))
      exact hJ33 x1 x2 r8 h
    · replace h := xbr_f h c5
      clear c5
      refine x_iconst (v := (J (-1))) E dX11_carried_20 (by decide) ?_
      refine x_goto (tgt := 33) E dX11_carried_21 (by decide) ?_
      exact hJ33 x1 x2 (J (-1)) h
theorem dX11_lay_0 : decode cX11_lay 0 = .ok (.iload_n 1, 1) := by decide +kernel
theorem dX11_lay_1 : decode cX11_lay 1 = .ok (.i2l, 1) := by decide +kernel
theorem dX11_lay_2 : decode cX11_lay 2 = .ok (.lconst 0, 1) := by decide +kernel
theorem dX11_lay_3 : decode cX11_lay 3 = .ok (.ldc2_w 279, 3) := by decide +kernel
theorem dX11_lay_6 : decode cX11_lay 6 = .ok (.invokestatic 78, 3) := by decide +kernel
theorem dX11_lay_9 : decode cX11_lay 9 = .ok (.ifCond .ne 7, 3) := by decide +kernel
theorem dX11_lay_12 : decode cX11_lay 12 = .ok (.sipush (-1002), 3) := by decide +kernel
theorem dX11_lay_15 : decode cX11_lay 15 = .ok (.ireturn, 1) := by decide +kernel
theorem dX11_lay_16 : decode cX11_lay 16 = .ok (.aload_n 0, 1) := by decide +kernel
theorem dX11_lay_17 : decode cX11_lay 17 = .ok (.invokevirtual 258, 3) := by decide +kernel
theorem dX11_lay_20 : decode cX11_lay 20 = .ok (.iconst 0, 1) := by decide +kernel
theorem dX11_lay_21 : decode cX11_lay 21 = .ok (.istore_n 2, 1) := by decide +kernel
theorem dX11_lay_22 : decode cX11_lay 22 = .ok (.iload_n 2, 1) := by decide +kernel
theorem dX11_lay_23 : decode cX11_lay 23 = .ok (.aload_n 0, 1) := by decide +kernel
theorem dX11_lay_24 : decode cX11_lay 24 = .ok (.getfield 75, 3) := by decide +kernel
theorem dX11_lay_27 : decode cX11_lay 27 = .ok (.if_icmp .ge 106, 3) := by decide +kernel
theorem dX11_lay_30 : decode cX11_lay 30 = .ok (.iconst (-1), 1) := by decide +kernel
theorem dX11_lay_31 : decode cX11_lay 31 = .ok (.istore_n 3, 1) := by decide +kernel
theorem dX11_lay_32 : decode cX11_lay 32 = .ok (.iconst 0, 1) := by decide +kernel
theorem dX11_lay_33 : decode cX11_lay 33 = .ok (.istore 4, 2) := by decide +kernel
theorem dX11_lay_35 : decode cX11_lay 35 = .ok (.iload 4, 2) := by decide +kernel
theorem dX11_lay_37 : decode cX11_lay 37 = .ok (.aload_n 0, 1) := by decide +kernel
theorem dX11_lay_38 : decode cX11_lay 38 = .ok (.getfield 246, 3) := by decide +kernel
theorem dX11_lay_41 : decode cX11_lay 41 = .ok (.if_icmp .ge 27, 3) := by decide +kernel
theorem dX11_lay_44 : decode cX11_lay 44 = .ok (.aload_n 0, 1) := by decide +kernel
theorem dX11_lay_45 : decode cX11_lay 45 = .ok (.getfield 47, 3) := by decide +kernel
theorem dX11_lay_48 : decode cX11_lay 48 = .ok (.iload 4, 2) := by decide +kernel
theorem dX11_lay_50 : decode cX11_lay 50 = .ok (.iaload, 1) := by decide +kernel
theorem dX11_lay_51 : decode cX11_lay 51 = .ok (.iload_n 2, 1) := by decide +kernel
theorem dX11_lay_52 : decode cX11_lay 52 = .ok (.if_icmp .ne 8, 3) := by decide +kernel
theorem dX11_lay_55 : decode cX11_lay 55 = .ok (.iload 4, 2) := by decide +kernel
theorem dX11_lay_57 : decode cX11_lay 57 = .ok (.goto 4, 3) := by decide +kernel
theorem dX11_lay_60 : decode cX11_lay 60 = .ok (.iload_n 3, 1) := by decide +kernel
theorem dX11_lay_61 : decode cX11_lay 61 = .ok (.istore_n 3, 1) := by decide +kernel
theorem dX11_lay_62 : decode cX11_lay 62 = .ok (.iinc 4 1, 3) := by decide +kernel
theorem dX11_lay_65 : decode cX11_lay 65 = .ok (.goto (-30), 3) := by decide +kernel
theorem dX11_lay_68 : decode cX11_lay 68 = .ok (.iload_n 3, 1) := by decide +kernel
theorem dX11_lay_69 : decode cX11_lay 69 = .ok (.ifCond .lt 58, 3) := by decide +kernel
theorem dX11_lay_72 : decode cX11_lay 72 = .ok (.iconst 0, 1) := by decide +kernel
theorem dX11_lay_73 : decode cX11_lay 73 = .ok (.istore 4, 2) := by decide +kernel
theorem dX11_lay_75 : decode cX11_lay 75 = .ok (.iconst 0, 1) := by decide +kernel
theorem dX11_lay_76 : decode cX11_lay 76 = .ok (.istore 5, 2) := by decide +kernel
theorem dX11_lay_78 : decode cX11_lay 78 = .ok (.iload 5, 2) := by decide +kernel
theorem dX11_lay_80 : decode cX11_lay 80 = .ok (.aload_n 0, 1) := by decide +kernel
theorem dX11_lay_81 : decode cX11_lay 81 = .ok (.getfield 246, 3) := by decide +kernel
theorem dX11_lay_84 : decode cX11_lay 84 = .ok (.if_icmp .ge 35, 3) := by decide +kernel
theorem dX11_lay_87 : decode cX11_lay 87 = .ok (.iload 4, 2) := by decide +kernel
theorem dX11_lay_89 : decode cX11_lay 89 = .ok (.aload_n 0, 1) := by decide +kernel
theorem dX11_lay_90 : decode cX11_lay 90 = .ok (.aload_n 0, 1) := by decide +kernel
theorem dX11_lay_91 : decode cX11_lay 91 = .ok (.getfield 47, 3) := by decide +kernel
theorem dX11_lay_94 : decode cX11_lay 94 = .ok (.iload 5, 2) := by decide +kernel
theorem dX11_lay_96 : decode cX11_lay 96 = .ok (.iaload, 1) := by decide +kernel
theorem dX11_lay_97 : decode cX11_lay 97 = .ok (.iload_n 2, 1) := by decide +kernel
theorem dX11_lay_98 : decode cX11_lay 98 = .ok (.iconst 0, 1) := by decide +kernel
theorem dX11_lay_99 : decode cX11_lay 99 = .ok (.invokevirtual 214, 3) := by decide +kernel
theorem dX11_lay_102 : decode cX11_lay 102 = .ok (.ifCond .eq 7, 3) := by decide +kernel
theorem dX11_lay_105 : decode cX11_lay 105 = .ok (.iconst 1, 1) := by decide +kernel
theorem dX11_lay_106 : decode cX11_lay 106 = .ok (.goto 4, 3) := by decide +kernel
theorem dX11_lay_109 : decode cX11_lay 109 = .ok (.iconst 0, 1) := by decide +kernel
theorem dX11_lay_110 : decode cX11_lay 110 = .ok (.iadd, 1) := by decide +kernel
theorem dX11_lay_111 : decode cX11_lay 111 = .ok (.istore 4, 2) := by decide +kernel
theorem dX11_lay_113 : decode cX11_lay 113 = .ok (.iinc 5 1, 3) := by decide +kernel
theorem dX11_lay_116 : decode cX11_lay 116 = .ok (.goto (-38), 3) := by decide +kernel
theorem dX11_lay_119 : decode cX11_lay 119 = .ok (.aload_n 0, 1) := by decide +kernel
theorem dX11_lay_120 : decode cX11_lay 120 = .ok (.getfield 28, 3) := by decide +kernel
theorem dX11_lay_123 : decode cX11_lay 123 = .ok (.iload 4, 2) := by decide +kernel
theorem dX11_lay_125 : decode cX11_lay 125 = .ok (.iload_n 2, 1) := by decide +kernel
theorem dX11_lay_126 : decode cX11_lay 126 = .ok (.iastore, 1) := by decide +kernel
theorem dX11_lay_127 : decode cX11_lay 127 = .ok (.iinc 2 1, 3) := by decide +kernel
theorem dX11_lay_130 : decode cX11_lay 130 = .ok (.goto (-108), 3) := by decide +kernel
theorem dX11_lay_133 : decode cX11_lay 133 = .ok (.iconst 0, 1) := by decide +kernel
theorem dX11_lay_134 : decode cX11_lay 134 = .ok (.istore_n 2, 1) := by decide +kernel
theorem dX11_lay_135 : decode cX11_lay 135 = .ok (.iload_n 2, 1) := by decide +kernel
theorem dX11_lay_136 : decode cX11_lay 136 = .ok (.bipush 8, 2) := by decide +kernel
theorem dX11_lay_138 : decode cX11_lay 138 = .ok (.if_icmp .ge 16, 3) := by decide +kernel
theorem dX11_lay_141 : decode cX11_lay 141 = .ok (.aload_n 0, 1) := by decide +kernel
theorem dX11_lay_142 : decode cX11_lay 142 = .ok (.getfield 31, 3) := by decide +kernel
theorem dX11_lay_145 : decode cX11_lay 145 = .ok (.iload_n 2, 1) := by decide +kernel
theorem dX11_lay_146 : decode cX11_lay 146 = .ok (.iconst 0, 1) := by decide +kernel
theorem dX11_lay_147 : decode cX11_lay 147 = .ok (.iastore, 1) := by decide +kernel
theorem dX11_lay_148 : decode cX11_lay 148 = .ok (.iinc 2 1, 3) := by decide +kernel
theorem dX11_lay_151 : decode cX11_lay 151 = .ok (.goto (-16), 3) := by decide +kernel
theorem dX11_lay_154 : decode cX11_lay 154 = .ok (.iconst 0, 1) := by decide +kernel
theorem dX11_lay_155 : decode cX11_lay 155 = .ok (.istore_n 2, 1) := by decide +kernel
theorem dX11_lay_156 : decode cX11_lay 156 = .ok (.iconst 0, 1) := by decide +kernel
theorem dX11_lay_157 : decode cX11_lay 157 = .ok (.istore_n 3, 1) := by decide +kernel
theorem dX11_lay_158 : decode cX11_lay 158 = .ok (.iconst 0, 1) := by decide +kernel
theorem dX11_lay_159 : decode cX11_lay 159 = .ok (.istore 4, 2) := by decide +kernel
theorem dX11_lay_161 : decode cX11_lay 161 = .ok (.iload 4, 2) := by decide +kernel
theorem dX11_lay_163 : decode cX11_lay 163 = .ok (.aload_n 0, 1) := by decide +kernel
theorem dX11_lay_164 : decode cX11_lay 164 = .ok (.getfield 246, 3) := by decide +kernel
theorem dX11_lay_167 : decode cX11_lay 167 = .ok (.if_icmp .ge 122, 3) := by decide +kernel
theorem dX11_lay_170 : decode cX11_lay 170 = .ok (.iload_n 2, 1) := by decide +kernel
theorem dX11_lay_171 : decode cX11_lay 171 = .ok (.bipush 8, 2) := by decide +kernel
theorem dX11_lay_173 : decode cX11_lay 173 = .ok (.if_icmp .ge 116, 3) := by decide +kernel
theorem dX11_lay_176 : decode cX11_lay 176 = .ok (.aload_n 0, 1) := by decide +kernel
theorem dX11_lay_177 : decode cX11_lay 177 = .ok (.getfield 22, 3) := by decide +kernel
theorem dX11_lay_180 : decode cX11_lay 180 = .ok (.aload_n 0, 1) := by decide +kernel
theorem dX11_lay_181 : decode cX11_lay 181 = .ok (.getfield 28, 3) := by decide +kernel
theorem dX11_lay_184 : decode cX11_lay 184 = .ok (.iload 4, 2) := by decide +kernel
theorem dX11_lay_186 : decode cX11_lay 186 = .ok (.iaload, 1) := by decide +kernel
theorem dX11_lay_187 : decode cX11_lay 187 = .ok (.iaload, 1) := by decide +kernel
theorem dX11_lay_188 : decode cX11_lay 188 = .ok (.istore 5, 2) := by decide +kernel
theorem dX11_lay_190 : decode cX11_lay 190 = .ok (.aload_n 0, 1) := by decide +kernel
theorem dX11_lay_191 : decode cX11_lay 191 = .ok (.getfield 25, 3) := by decide +kernel
theorem dX11_lay_194 : decode cX11_lay 194 = .ok (.iload_n 2, 1) := by decide +kernel
theorem dX11_lay_195 : decode cX11_lay 195 = .ok (.iaload, 1) := by decide +kernel
theorem dX11_lay_196 : decode cX11_lay 196 = .ok (.iload_n 3, 1) := by decide +kernel
theorem dX11_lay_197 : decode cX11_lay 197 = .ok (.isub, 1) := by decide +kernel
theorem dX11_lay_198 : decode cX11_lay 198 = .ok (.iload 5, 2) := by decide +kernel
theorem dX11_lay_200 : decode cX11_lay 200 = .ok (.isub, 1) := by decide +kernel
theorem dX11_lay_201 : decode cX11_lay 201 = .ok (.istore 6, 2) := by decide +kernel
theorem dX11_lay_203 : decode cX11_lay 203 = .ok (.iload 6, 2) := by decide +kernel
theorem dX11_lay_205 : decode cX11_lay 205 = .ok (.iload_n 1, 1) := by decide +kernel
theorem dX11_lay_206 : decode cX11_lay 206 = .ok (.if_icmp .ge 12, 3) := by decide +kernel
theorem dX11_lay_209 : decode cX11_lay 209 = .ok (.iload_n 3, 1) := by decide +kernel
theorem dX11_lay_210 : decode cX11_lay 210 = .ok (.ifCond .ne 12, 3) := by decide +kernel
theorem dX11_lay_213 : decode cX11_lay 213 = .ok (.iload 6, 2) := by decide +kernel
theorem dX11_lay_215 : decode cX11_lay 215 = .ok (.ifCond .lt 7, 3) := by decide +kernel
theorem dX11_lay_218 : decode cX11_lay 218 = .ok (.iconst 1, 1) := by decide +kernel
theorem dX11_lay_219 : decode cX11_lay 219 = .ok (.goto 4, 3) := by decide +kernel
theorem dX11_lay_222 : decode cX11_lay 222 = .ok (.iconst 0, 1) := by decide +kernel
theorem dX11_lay_223 : decode cX11_lay 223 = .ok (.istore 7, 2) := by decide +kernel
theorem dX11_lay_225 : decode cX11_lay 225 = .ok (.aload_n 0, 1) := by decide +kernel
theorem dX11_lay_226 : decode cX11_lay 226 = .ok (.getfield 31, 3) := by decide +kernel
theorem dX11_lay_229 : decode cX11_lay 229 = .ok (.iload_n 2, 1) := by decide +kernel
theorem dX11_lay_230 : decode cX11_lay 230 = .ok (.dup2, 1) := by decide +kernel
theorem dX11_lay_231 : decode cX11_lay 231 = .ok (.iaload, 1) := by decide +kernel
theorem dX11_lay_232 : decode cX11_lay 232 = .ok (.iload 7, 2) := by decide +kernel
theorem dX11_lay_234 : decode cX11_lay 234 = .ok (.ifCond .eq 7, 3) := by decide +kernel
theorem dX11_lay_237 : decode cX11_lay 237 = .ok (.iconst 1, 1) := by decide +kernel
theorem dX11_lay_238 : decode cX11_lay 238 = .ok (.goto 4, 3) := by decide +kernel
theorem dX11_lay_241 : decode cX11_lay 241 = .ok (.iconst 0, 1) := by decide +kernel
theorem dX11_lay_242 : decode cX11_lay 242 = .ok (.iadd, 1) := by decide +kernel
theorem dX11_lay_243 : decode cX11_lay 243 = .ok (.iastore, 1) := by decide +kernel
theorem dX11_lay_244 : decode cX11_lay 244 = .ok (.iload 7, 2) := by decide +kernel
theorem dX11_lay_246 : decode cX11_lay 246 = .ok (.ifCond .eq 10, 3) := by decide +kernel
theorem dX11_lay_249 : decode cX11_lay 249 = .ok (.iload_n 3, 1) := by decide +kernel
theorem dX11_lay_250 : decode cX11_lay 250 = .ok (.iload 5, 2) := by decide +kernel
theorem dX11_lay_252 : decode cX11_lay 252 = .ok (.iadd, 1) := by decide +kernel
theorem dX11_lay_253 : decode cX11_lay 253 = .ok (.goto 4, 3) := by decide +kernel
theorem dX11_lay_256 : decode cX11_lay 256 = .ok (.iconst 0, 1) := by decide +kernel
theorem dX11_lay_257 : decode cX11_lay 257 = .ok (.istore_n 3, 1) := by decide +kernel
theorem dX11_lay_258 : decode cX11_lay 258 = .ok (.iload 4, 2) := by decide +kernel
theorem dX11_lay_260 : decode cX11_lay 260 = .ok (.iload 7, 2) := by decide +kernel
theorem dX11_lay_262 : decode cX11_lay 262 = .ok (.ifCond .eq 7, 3) := by decide +kernel
theorem dX11_lay_265 : decode cX11_lay 265 = .ok (.iconst 1, 1) := by decide +kernel
theorem dX11_lay_266 : decode cX11_lay 266 = .ok (.goto 4, 3) := by decide +kernel
theorem dX11_lay_269 : decode cX11_lay 269 = .ok (.iconst 0, 1) := by decide +kernel
theorem dX11_lay_270 : decode cX11_lay 270 = .ok (.iadd, 1) := by decide +kernel
theorem dX11_lay_271 : decode cX11_lay 271 = .ok (.istore 4, 2) := by decide +kernel
theorem dX11_lay_273 : decode cX11_lay 273 = .ok (.iload_n 2, 1) := by decide +kernel
theorem dX11_lay_274 : decode cX11_lay 274 = .ok (.iload 7, 2) := by decide +kernel
theorem dX11_lay_276 : decode cX11_lay 276 = .ok (.ifCond .eq 7, 3) := by decide +kernel
theorem dX11_lay_279 : decode cX11_lay 279 = .ok (.iconst 0, 1) := by decide +kernel
theorem dX11_lay_280 : decode cX11_lay 280 = .ok (.goto 4, 3) := by decide +kernel
theorem dX11_lay_283 : decode cX11_lay 283 = .ok (.iconst 1, 1) := by decide +kernel
theorem dX11_lay_284 : decode cX11_lay 284 = .ok (.iadd, 1) := by decide +kernel
theorem dX11_lay_285 : decode cX11_lay 285 = .ok (.istore_n 2, 1) := by decide +kernel
theorem dX11_lay_286 : decode cX11_lay 286 = .ok (.goto (-125), 3) := by decide +kernel
theorem dX11_lay_289 : decode cX11_lay 289 = .ok (.iload 4, 2) := by decide +kernel
theorem dX11_lay_291 : decode cX11_lay 291 = .ok (.aload_n 0, 1) := by decide +kernel
theorem dX11_lay_292 : decode cX11_lay 292 = .ok (.getfield 246, 3) := by decide +kernel
theorem dX11_lay_295 : decode cX11_lay 295 = .ok (.if_icmp .ge 11, 3) := by decide +kernel
theorem dX11_lay_298 : decode cX11_lay 298 = .ok (.aload_n 0, 1) := by decide +kernel
theorem dX11_lay_299 : decode cX11_lay 299 = .ok (.invokevirtual 264, 3) := by decide +kernel
theorem dX11_lay_302 : decode cX11_lay 302 = .ok (.sipush (-1003), 3) := by decide +kernel
theorem dX11_lay_305 : decode cX11_lay 305 = .ok (.ireturn, 1) := by decide +kernel
theorem dX11_lay_306 : decode cX11_lay 306 = .ok (.aload_n 0, 1) := by decide +kernel
theorem dX11_lay_307 : decode cX11_lay 307 = .ok (.invokevirtual 281, 3) := by decide +kernel
theorem dX11_lay_310 : decode cX11_lay 310 = .ok (.ireturn, 1) := by decide +kernel
set_option maxHeartbeats 4000000 in
set_option maxRecDepth 100000 in
theorem kX11_lay (l : Launch) (z : Nat) (D : va_G) (cA : Nat → ClassId) (a0 : Nat) (x1 : Int32) (M : Mem) (K : Int32 → Mem → Prop) (h : PX11_lay a0 x1 M K) : Met l yX11_lay (.code yX11_lay cX11_lay 8 (some .int) :: gtbl) ({ frames := 3, cells := 0, slots := 0, locals := 73 } : Room) (va_Pc [.ref a0, .int x1] (xB z D cA M)) (va_Qi K (xWd z D cA) (xA z)) 0 0 (xA z) := by
  refine x_met (by decide +kernel) (Nat.le_of_ble_eq_true rfl) (L0 := [(0, .ref a0), (1, .int x1)]) rfl ?_
  intro p e s m args below meth c E hr hlk hnm
  have E : xE RX11 cX11_lay 8 D cA p s m args c := E
  have hJ289 : ∀ (M : Mem) (j0 : Nat) (j4 : Int32), JX11_lay_289 K M j0 j4 → xG p l e ({ frames := 3, cells := 0, slots := 0, locals := 73 } : Room) s m args below meth c (MQ below (va_Qi K (xWd z D cA) (xA z)) args s 0 0 (xA z)) 8 z D cA M (0) (0) 289 [(0, .ref j0), (4, .int j4)] [] := by
    intro M j0 j4 h
    refine x_iload E dX11_lay_289 1 rfl ?_
    refine x_aload_n E dX11_lay_291 rfl 0 rfl ?_
    obtain ⟨hT, v11, hv, h⟩ := h
    refine x_get E flX11_246 dX11_lay_292 hT hv ?_
    clear hT hv
    refine x_icmp_ge (tgt := 306) E dX11_lay_295 (by decide) (fun c12 => ?_) (fun c12 => ?_)
    · replace h := xbr_t h c12
      clear c12
      refine x_aload_n E dX11_lay_306 rfl 0 rfl ?_
      refine x_callVi (T := TX11) (N := 32) (t := 12) (As := []) E mlX11_281 inX11_carried seX11_carried rfl ⟨by decide, by decide⟩ (tX11_carried h) (kX11_carried l z D cA j0 M _ h) rfl ⟨rfl, rfl⟩ ⟨Nat.le_of_ble_eq_true rfl, Nat.le_of_ble_eq_true rfl⟩ ⟨(Nat.le_of_ble_eq_true rfl), (Nat.le_of_ble_eq_true rfl)⟩ (Nat.le_of_ble_eq_true rfl) rfl dX11_lay_307 (x_pure (fun r13 h => ?_))
      exact x_iret E hr hlk dX11_lay_310 h
    · replace h := xbr_f h c12
      clear c12
      refine x_aload_n E dX11_lay_298 rfl 0 rfl ?_
      refine x_callVv (T := TX11) (N := 32) (t := 12) (As := []) E mlX11_264 inX11_back seX11_back rfl ⟨by decide, by decide⟩ (tX11_back h) (kX11_back l z D cA j0 M _ h) rfl ⟨rfl, rfl⟩ ⟨Nat.le_of_ble_eq_true rfl, Nat.le_of_ble_eq_true rfl⟩ ⟨(Nat.le_of_ble_eq_true rfl), (Nat.le_of_ble_eq_true rfl)⟩ (Nat.le_of_ble_eq_true rfl) rfl dX11_lay_299 (fun M16 h => ?_)
      refine x_sipush (v := (J (-1003))) E dX11_lay_302 (by decide) ?_
      exact x_iret E hr hlk dX11_lay_305 h
  replace h := h.2
  refine x_iload_n E dX11_lay_0 rfl 1 rfl ?_
  refine x_i2l E dX11_lay_1 ?_
  refine x_lconst (v := (LJ 0)) E dX11_lay_2 (by decide) ?_
  refine x_ldc2 (v := (LJ 30)) E (gw 1229 (by decide +kernel) rfl) dX11_lay_3 ?_
  refine x_callSi (As := [.long x1.toInt64, .long (LJ 0), .long (LJ 30)]) E mlX11_78 rfl stX11_in (kX11_in l z D cA x1.toInt64 (LJ 0) (LJ 30) M _ h) rfl ⟨rfl, rfl⟩ ⟨Nat.le_of_ble_eq_true rfl, Nat.le_of_ble_eq_true rfl⟩ ⟨(Nat.le_of_ble_eq_true rfl), (Nat.le_of_ble_eq_true rfl)⟩ (Nat.le_of_ble_eq_true rfl) rfl dX11_lay_6 (x_pure (fun r1 h => ?_))
  refine x_if_ne (tgt := 16) E dX11_lay_9 (by decide) (fun c3 => ?_) (fun c3 => ?_)
  · replace h := xbr_f h c3
    clear c3
    refine x_aload_n E dX11_lay_16 rfl 0 rfl ?_
    refine x_callVv (T := TX11) (N := 32) (t := 12) (As := []) E mlX11_258 inX11_save seX11_save rfl ⟨by decide, by decide⟩ (tX11_save h) (kX11_save l z D cA a0 M _ h) rfl ⟨rfl, rfl⟩ ⟨Nat.le_of_ble_eq_true rfl, Nat.le_of_ble_eq_true rfl⟩ ⟨(Nat.le_of_ble_eq_true rfl), (Nat.le_of_ble_eq_true rfl)⟩ (Nat.le_of_ble_eq_true rfl) rfl dX11_lay_17 (fun M5 h => ?_)
    refine x_iconst (v := (J 0)) E dX11_lay_20 (by decide) ?_
    refine x_istore_n (L' := [(2, .int (J 0)), (0, .ref a0), (1, .int x1)]) E dX11_lay_21 rfl (by decide) rfl ?_
    refine x_sub (L' := [(0, .ref a0), (1, .int x1), (2, .int (J 0))]) [1, 2, 0] rfl ?_
    refine lp_sound (T := fun sv => xG p l e ({ frames := 3, cells := 0, slots := 0, locals := 73 } : Room) s m args below meth c (MQ below (va_Qi K (xWd z D cA) (xA z)) args s 0 0 (xA z)) 8 z D cA sv.1 (0) (0) 22 [(0, .ref a0), (1, .int x1), (2, .int sv.2)] []) ?_ (M5, (J 0)) h
    clear h
    intro kc22 hk22 sv h
    obtain ⟨M, x2⟩ := sv
    replace h : CX11_lay_22 K a0 x1 kc22 M x2 := h
    try dsimp only
    refine x_iload_n E dX11_lay_22 rfl 2 rfl ?_
    refine x_aload_n E dX11_lay_23 rfl 0 rfl ?_
    obtain ⟨hT, v6, hv, h⟩ := h
    refine x_get E flX11_75 dX11_lay_24 hT hv ?_
    clear hT hv
    refine x_icmp_ge (tgt := 133) E dX11_lay_27 (by decide) (fun c7 => ?_) (fun c7 => ?_)
    · replace h := xbr_t h c7
      clear c7
      refine x_iconst (v := (J 0)) E dX11_lay_133 (by decide) ?_
      refine x_istore_n (L' := [(2, .int (J 0)), (0, .ref a0), (1, .int x1)]) E dX11_lay_134 rfl (by decide) rfl ?_
      refine x_sub (L' := [(0, .ref a0), (1, .int x1), (2, .int (J 0))]) [1, 2, 0] rfl ?_
      refine lp_sound (T := fun sv => xG p l e ({ frames := 3, cells := 0, slots := 0, locals := 73 } : Room) s m args below meth c (MQ below (va_Qi K (xWd z D cA) (xA z)) args s 0 0 (xA z)) 8 z D cA sv.1 (0) (0) 135 [(0, .ref a0), (1, .int x1), (2, .int sv.2)] []) ?_ (M, (J 0)) h
      clear h
      intro kc135 hk135 sv h
      obtain ⟨M, x2⟩ := sv
      replace h : CX11_lay_135 K a0 x1 kc135 M x2 := h
      try dsimp only
      refine x_iload_n E dX11_lay_135 rfl 2 rfl ?_
      refine x_bipush (v := (J 8)) E dX11_lay_136 (by decide) ?_
      refine x_icmp_ge (tgt := 154) E dX11_lay_138 (by decide) (fun c8 => ?_) (fun c8 => ?_)
      · replace h := xbr_t h c8
        clear c8
        refine x_iconst (v := (J 0)) E dX11_lay_154 (by decide) ?_
        refine x_istore_n (L' := [(2, .int (J 0)), (0, .ref a0), (1, .int x1)]) E dX11_lay_155 rfl (by decide) rfl ?_
        refine x_iconst (v := (J 0)) E dX11_lay_156 (by decide) ?_
        refine x_istore_n (L' := [(3, .int (J 0)), (2, .int (J 0)), (0, .ref a0), (1, .int x1)]) E dX11_lay_157 rfl (by decide) rfl ?_
        refine x_iconst (v := (J 0)) E dX11_lay_158 (by decide) ?_
        refine x_istore (L' := [(4, .int (J 0)), (3, .int (J 0)), (2, .int (J 0)), (0, .ref a0), (1, .int x1)]) E dX11_lay_159 (by decide) rfl ?_
        refine x_sub (L' := [(0, .ref a0), (1, .int x1), (2, .int (J 0)), (3, .int (J 0)), (4, .int (J 0))]) [3, 4, 2, 1, 0] rfl ?_
        refine lp_sound (T := fun sv => xG p l e ({ frames := 3, cells := 0, slots := 0, locals := 73 } : Room) s m args below meth c (MQ below (va_Qi K (xWd z D cA) (xA z)) args s 0 0 (xA z)) 8 z D cA sv.1 (0) (0) 161 [(0, .ref a0), (1, .int x1), (2, .int sv.2.1), (3, .int sv.2.2.1), (4, .int sv.2.2.2)] []) ?_ (M, (J 0), (J 0), (J 0)) h
        clear h
        intro kc161 hk161 sv h
        obtain ⟨M, x2, x3, x4⟩ := sv
        replace h : CX11_lay_161 K a0 x1 kc161 M x2 x3 x4 := h
        try dsimp only
        have hJ270 : ∀ (M : Mem) (j2 : Int32) (j3 : Int32) (j7 : Int32) (s0 : Int32) (s1 : Int32), JX11_lay_270 K kc161 M a0 x1 j2 j3 j7 s0 s1 → xG p l e ({ frames := 3, cells := 0, slots := 0, locals := 73 } : Room) s m args below meth c (MQ below (va_Qi K (xWd z D cA) (xA z)) args s 0 0 (xA z)) 8 z D cA M (0) (0) 270 [(0, .ref a0), (1, .int x1), (2, .int j2), (3, .int j3), (7, .int j7)] [.int s0, .int s1] := by
          intro M j2 j3 j7 s0 s1 h
          refine x_iadd E dX11_lay_270 ?_
          obtain ⟨y32, ey32, h⟩ := h
          refine x_top (v := .int y32) (congrArg _ ey32) ?_
          clear ey32
          refine x_istore (L' := [(4, .int y32), (0, .ref a0), (1, .int x1), (2, .int j2), (3, .int j3), (7, .int j7)]) E dX11_lay_271 (by decide) rfl ?_
          refine x_iload_n E dX11_lay_273 rfl 3 rfl ?_
          refine x_iload E dX11_lay_274 5 rfl ?_
          refine x_if_eq (tgt := 283) E dX11_lay_276 (by decide) (fun c33 => ?_) (fun c33 => ?_)
          · replace h := xbr_t h c33
            clear c33
            refine x_iconst (v := (J 1)) E dX11_lay_283 (by decide) ?_
            refine x_iadd E dX11_lay_284 ?_
            obtain ⟨y34, ey34, h⟩ := h
            refine x_top (v := .int y34) (congrArg _ ey34) ?_
            clear ey34
            refine x_istore_n (L' := [(2, .int y34), (4, .int y32), (0, .ref a0), (1, .int x1), (3, .int j3), (7, .int j7)]) E dX11_lay_285 rfl (by decide) rfl ?_
            refine x_goto (tgt := 161) E dX11_lay_286 (by decide) ?_
            refine x_sub (L' := [(0, .ref a0), (1, .int x1), (2, .int y34), (3, .int j3), (4, .int y32)]) [2, 3, 0, 4, 1] rfl ?_
            exact hk161 (M, y34, j3, y32) h
          · replace h := xbr_f h c33
            clear c33
            refine x_iconst (v := (J 0)) E dX11_lay_279 (by decide) ?_
            refine x_goto (tgt := 284) E dX11_lay_280 (by decide) ?_
            refine x_iadd E dX11_lay_284 ?_
            obtain ⟨y35, ey35, h⟩ := h
            refine x_top (v := .int y35) (congrArg _ ey35) ?_
            clear ey35
            refine x_istore_n (L' := [(2, .int y35), (4, .int y32), (0, .ref a0), (1, .int x1), (3, .int j3), (7, .int j7)]) E dX11_lay_285 rfl (by decide) rfl ?_
            refine x_goto (tgt := 161) E dX11_lay_286 (by decide) ?_
            refine x_sub (L' := [(0, .ref a0), (1, .int x1), (2, .int y35), (3, .int j3), (4, .int y32)]) [2, 3, 0, 4, 1] rfl ?_
            exact hk161 (M, y35, j3, y32) h
        have hJ257 : ∀ (M : Mem) (j2 : Int32) (j4 : Int32) (j7 : Int32) (s0 : Int32), JX11_lay_257 K kc161 M a0 x1 j2 j4 j7 s0 → xG p l e ({ frames := 3, cells := 0, slots := 0, locals := 73 } : Room) s m args below meth c (MQ below (va_Qi K (xWd z D cA) (xA z)) args s 0 0 (xA z)) 8 z D cA M (0) (0) 257 [(0, .ref a0), (1, .int x1), (2, .int j2), (4, .int j4), (7, .int j7)] [.int s0] := by
          intro M j2 j4 j7 s0 h
          refine x_istore_n (L' := [(3, .int s0), (0, .ref a0), (1, .int x1), (2, .int j2), (4, .int j4), (7, .int j7)]) E dX11_lay_257 rfl (by decide) rfl ?_
          refine x_iload E dX11_lay_258 4 rfl ?_
          refine x_iload E dX11_lay_260 5 rfl ?_
          refine x_if_eq (tgt := 269) E dX11_lay_262 (by decide) (fun c31 => ?_) (fun c31 => ?_)
          · replace h := xbr_t h c31
            clear c31
            refine x_iconst (v := (J 0)) E dX11_lay_269 (by decide) ?_
            refine x_sub (L' := [(0, .ref a0), (1, .int x1), (2, .int j2), (3, .int s0), (7, .int j7)]) [1, 2, 3, 0, 5] rfl ?_
            exact hJ270 M j2 s0 j7 (J 0) j4 h
          · replace h := xbr_f h c31
            clear c31
            refine x_iconst (v := (J 1)) E dX11_lay_265 (by decide) ?_
            refine x_goto (tgt := 270) E dX11_lay_266 (by decide) ?_
            refine x_sub (L' := [(0, .ref a0), (1, .int x1), (2, .int j2), (3, .int s0), (7, .int j7)]) [1, 2, 3, 0, 5] rfl ?_
            exact hJ270 M j2 s0 j7 (J 1) j4 h
        have hJ242 : ∀ (M : Mem) (j2 : Int32) (j3 : Int32) (j4 : Int32) (j5 : Int32) (j7 : Int32) (s0 : Int32) (s1 : Int32) (s2 : Int32) (s3 : Nat), JX11_lay_242 K kc161 M a0 x1 j2 j3 j4 j5 j7 s0 s1 s2 s3 → xG p l e ({ frames := 3, cells := 0, slots := 0, locals := 73 } : Room) s m args below meth c (MQ below (va_Qi K (xWd z D cA) (xA z)) args s 0 0 (xA z)) 8 z D cA M (0) (0) 242 [(0, .ref a0), (1, .int x1), (2, .int j2), (3, .int j3), (4, .int j4), (5, .int j5), (7, .int j7)] [.int s0, .int s1, .int s2, .ref s3] := by
          intro M j2 j3 j4 j5 j7 s0 s1 s2 s3 h
          refine x_iadd E dX11_lay_242 ?_
          obtain ⟨hT, hi, h⟩ := h
          refine x_iast E dX11_lay_243 hT hi (fun M29 eM29 => ?_)
          replace h := h M29 eM29
          clear hT hi eM29
          refine x_iload E dX11_lay_244 6 rfl ?_
          refine x_if_eq (tgt := 256) E dX11_lay_246 (by decide) (fun c30 => ?_) (fun c30 => ?_)
          · replace h := xbr_t h c30
            clear c30
            refine x_iconst (v := (J 0)) E dX11_lay_256 (by decide) ?_
            refine x_sub (L' := [(0, .ref a0), (1, .int x1), (2, .int j2), (4, .int j4), (7, .int j7)]) [0, 1, 2, 4, 6] rfl ?_
            exact hJ257 M29 j2 j4 j7 (J 0) h
          · replace h := xbr_f h c30
            clear c30
            refine x_iload_n E dX11_lay_249 rfl 3 rfl ?_
            refine x_iload E dX11_lay_250 5 rfl ?_
            refine x_iadd E dX11_lay_252 ?_
            refine x_goto (tgt := 257) E dX11_lay_253 (by decide) ?_
            refine x_sub (L' := [(0, .ref a0), (1, .int x1), (2, .int j2), (4, .int j4), (7, .int j7)]) [0, 1, 2, 4, 6] rfl ?_
            exact hJ257 M29 j2 j4 j7 (j3 + j5) h
        have hJ223 : ∀ (M : Mem) (j2 : Int32) (j3 : Int32) (j4 : Int32) (j5 : Int32) (s0 : Int32), JX11_lay_223 K kc161 M a0 x1 j2 j3 j4 j5 s0 → xG p l e ({ frames := 3, cells := 0, slots := 0, locals := 73 } : Room) s m args below meth c (MQ below (va_Qi K (xWd z D cA) (xA z)) args s 0 0 (xA z)) 8 z D cA M (0) (0) 223 [(0, .ref a0), (1, .int x1), (2, .int j2), (3, .int j3), (4, .int j4), (5, .int j5)] [.int s0] := by
          intro M j2 j3 j4 j5 s0 h
          refine x_istore (L' := [(7, .int s0), (0, .ref a0), (1, .int x1), (2, .int j2), (3, .int j3), (4, .int j4), (5, .int j5)]) E dX11_lay_223 (by decide) rfl ?_
          refine x_aload_n E dX11_lay_225 rfl 1 rfl ?_
          obtain ⟨hT, q26, hv, h⟩ := h
          refine x_get E flX11_31 dX11_lay_226 hT hv ?_
          clear hT hv
          refine x_iload_n E dX11_lay_229 rfl 3 rfl ?_
          refine x_dup2 E dX11_lay_230 rfl rfl ?_
          obtain ⟨hT, hi, v27, hv, h⟩ := h
          refine x_iald E dX11_lay_231 hT hi hv ?_
          clear hT hi hv
          refine x_iload E dX11_lay_232 0 rfl ?_
          refine x_if_eq (tgt := 241) E dX11_lay_234 (by decide) (fun c28 => ?_) (fun c28 => ?_)
          · replace h := xbr_t h c28
            clear c28
            refine x_iconst (v := (J 0)) E dX11_lay_241 (by decide) ?_
            refine x_sub (L' := [(0, .ref a0), (1, .int x1), (2, .int j2), (3, .int j3), (4, .int j4), (5, .int j5), (7, .int s0)]) [1, 2, 3, 4, 5, 6, 0] rfl ?_
            exact hJ242 M j2 j3 j4 j5 s0 (J 0) v27 j2 q26 h
          · replace h := xbr_f h c28
            clear c28
            refine x_iconst (v := (J 1)) E dX11_lay_237 (by decide) ?_
            refine x_goto (tgt := 242) E dX11_lay_238 (by decide) ?_
            refine x_sub (L' := [(0, .ref a0), (1, .int x1), (2, .int j2), (3, .int j3), (4, .int j4), (5, .int j5), (7, .int s0)]) [1, 2, 3, 4, 5, 6, 0] rfl ?_
            exact hJ242 M j2 j3 j4 j5 s0 (J 1) v27 j2 q26 h
        have hJ218 : ∀ (M : Mem) (j2 : Int32) (j3 : Int32) (j4 : Int32) (j5 : Int32), JX11_lay_218 K kc161 M a0 x1 j2 j3 j4 j5 → xG p l e ({ frames := 3, cells := 0, slots := 0, locals := 73 } : Room) s m args below meth c (MQ below (va_Qi K (xWd z D cA) (xA z)) args s 0 0 (xA z)) 8 z D cA M (0) (0) 218 [(0, .ref a0), (1, .int x1), (2, .int j2), (3, .int j3), (4, .int j4), (5, .int j5)] [] := by
          intro M j2 j3 j4 j5 h
          refine x_iconst (v := (J 1)) E dX11_lay_218 (by decide) ?_
          refine x_goto (tgt := 223) E dX11_lay_219 (by decide) ?_
          exact hJ223 M j2 j3 j4 j5 (J 1) h
        have hJ222 : ∀ (M : Mem) (j2 : Int32) (j3 : Int32) (j4 : Int32) (j5 : Int32), JX11_lay_222 K kc161 M a0 x1 j2 j3 j4 j5 → xG p l e ({ frames := 3, cells := 0, slots := 0, locals := 73 } : Room) s m args below meth c (MQ below (va_Qi K (xWd z D cA) (xA z)) args s 0 0 (xA z)) 8 z D cA M (0) (0) 222 [(0, .ref a0), (1, .int x1), (2, .int j2), (3, .int j3), (4, .int j4), (5, .int j5)] [] := by
          intro M j2 j3 j4 j5 h
          refine x_iconst (v := (J 0)) E dX11_lay_222 (by decide) ?_
          exact hJ223 M j2 j3 j4 j5 (J 0) h
        refine x_iload E dX11_lay_161 4 rfl ?_
        refine x_aload_n E dX11_lay_163 rfl 0 rfl ?_
        obtain ⟨hT, v9, hv, h⟩ := h
        refine x_get E flX11_246 dX11_lay_164 hT hv ?_
        clear hT hv
        refine x_icmp_ge (tgt := 289) E dX11_lay_167 (by decide) (fun c10 => ?_) (fun c10 => ?_)
        · replace h := xbr_t h c10
          clear c10
          refine x_sub (L' := [(0, .ref a0), (4, .int x4)]) [0, 4] rfl ?_
          exact hJ289 M a0 x4 h
        · replace h := xbr_f h c10
          clear c10
          refine x_iload_n E dX11_lay_170 rfl 2 rfl ?_
          refine x_bipush (v := (J 8)) E dX11_lay_171 (by decide) ?_
          refine x_icmp_ge (tgt := 289) E dX11_lay_173 (by decide) (fun c17 => ?_) (fun c17 => ?_)
          · replace h := xbr_t h c17
            clear c17
            refine x_sub (L' := [(0, .ref a0), (4, .int x4)]) [0, 4] rfl ?_
            exact hJ289 M a0 x4 h
          · replace h := xbr_f h c17
            clear c17
            refine x_aload_n E dX11_lay_176 rfl 0 rfl ?_
            obtain ⟨hT, q18, hv, h⟩ := h
            refine x_get E flX11_22 dX11_lay_177 hT hv ?_
            clear hT hv
            refine x_aload_n E dX11_lay_180 rfl 0 rfl ?_
            obtain ⟨hT, q19, hv, h⟩ := h
            refine x_get E flX11_28 dX11_lay_181 hT hv ?_
            clear hT hv
            refine x_iload E dX11_lay_184 4 rfl ?_
            obtain ⟨hT, hi, v20, hv, h⟩ := h
            refine x_iald E dX11_lay_186 hT hi hv ?_
            clear hT hi hv
            obtain ⟨hT, hi, v21, hv, h⟩ := h
            refine x_iald E dX11_lay_187 hT hi hv ?_
            clear hT hi hv
            refine x_istore (L' := [(5, .int v21), (0, .ref a0), (1, .int x1), (2, .int x2), (3, .int x3), (4, .int x4)]) E dX11_lay_188 (by decide) rfl ?_
            refine x_aload_n E dX11_lay_190 rfl 1 rfl ?_
            obtain ⟨hT, q22, hv, h⟩ := h
            refine x_get E flX11_25 dX11_lay_191 hT hv ?_
            clear hT hv
            refine x_iload_n E dX11_lay_194 rfl 3 rfl ?_
            obtain ⟨hT, hi, v23, hv, h⟩ := h
            refine x_iald E dX11_lay_195 hT hi hv ?_
            clear hT hi hv
            refine x_iload_n E dX11_lay_196 rfl 4 rfl ?_
            refine x_isub E dX11_lay_197 ?_
            refine x_iload E dX11_lay_198 0 rfl ?_
            refine x_isub E dX11_lay_200 ?_
            obtain ⟨y24, ey24, h⟩ := h
            refine x_top (v := .int y24) (congrArg _ ey24) ?_
            clear ey24
            refine x_istore (L' := [(6, .int y24), (5, .int v21), (0, .ref a0), (1, .int x1), (2, .int x2), (3, .int x3), (4, .int x4)]) E dX11_lay_201 (by decide) rfl ?_
            refine x_iload E dX11_lay_203 0 rfl ?_
            refine x_iload_n E dX11_lay_205 rfl 3 rfl ?_
            refine x_icmp_ge (tgt := 218) E dX11_lay_206 (by decide) (fun c25 => ?_) (fun c25 => ?_)
            · replace h := xbr_t h c25
              clear c25
              refine x_sub (L' := [(0, .ref a0), (1, .int x1), (2, .int x2), (3, .int x3), (4, .int x4), (5, .int v21)]) [2, 3, 4, 5, 6, 1] rfl ?_
              exact hJ218 M x2 x3 x4 v21 h
            · replace h := xbr_f h c25
              clear c25
              refine x_iload_n E dX11_lay_209 rfl 5 rfl ?_
              refine x_if_ne (tgt := 222) E dX11_lay_210 (by decide) (fun c36 => ?_) (fun c36 => ?_)
              · replace h := xbr_f h c36
                clear c36
                refine x_sub (L' := [(0, .ref a0), (1, .int x1), (2, .int x2), (3, .int x3), (4, .int x4), (5, .int v21)]) [2, 3, 4, 5, 6, 1] rfl ?_
                exact hJ222 M x2 x3 x4 v21 h
              · replace h := xbr_t h c36
                clear c36
                refine x_iload E dX11_lay_213 0 rfl ?_
                refine x_if_lt (tgt := 222) E dX11_lay_215 (by decide) (fun c37 => ?_) (fun c37 => ?_)
                · replace h := xbr_t h c37
                  clear c37
                  refine x_sub (L' := [(0, .ref a0), (1, .int x1), (2, .int x2), (3, .int x3), (4, .int x4), (5, .int v21)]) [2, 3, 4, 5, 6, 1] rfl ?_
                  exact hJ222 M x2 x3 x4 v21 h
                · replace h := xbr_f h c37
                  clear c37
                  refine x_sub (L' := [(0, .ref a0), (1, .int x1), (2, .int x2), (3, .int x3), (4, .int x4), (5, .int v21)]) [2, 3, 4, 5, 6, 1] rfl ?_
                  exact hJ218 M x2 x3 x4 v21 h
      · replace h := xbr_f h c8
        clear c8
        refine x_aload_n E dX11_lay_141 rfl 0 rfl ?_
        obtain ⟨hT, q38, hv, h⟩ := h
        refine x_get E flX11_31 dX11_lay_142 hT hv ?_
        clear hT hv
        refine x_iload_n E dX11_lay_145 rfl 2 rfl ?_
        refine x_iconst (v := (J 0)) E dX11_lay_146 (by decide) ?_
        obtain ⟨hT, hi, h⟩ := h
        refine x_iast E dX11_lay_147 hT hi (fun M39 eM39 => ?_)
        replace h := h M39 eM39
        clear hT hi eM39
        refine x_iinc (v := (x2 + (J 1))) (L' := [(2, .int (x2 + (J 1))), (0, .ref a0), (1, .int x1)]) E dX11_lay_148 2 rfl rfl (by decide) rfl ?_
        refine x_goto (tgt := 135) E dX11_lay_151 (by decide) ?_
        refine x_sub (L' := [(0, .ref a0), (1, .int x1), (2, .int (x2 + (J 1)))]) [1, 2, 0] rfl ?_
        exact hk135 (M39, (x2 + (J 1))) h
    · replace h := xbr_f h c7
      clear c7
      refine x_iconst (v := (J (-1))) E dX11_lay_30 (by decide) ?_
      refine x_istore_n (L' := [(3, .int (J (-1))), (0, .ref a0), (1, .int x1), (2, .int x2)]) E dX11_lay_31 rfl (by decide) rfl ?_
      refine x_iconst (v := (J 0)) E dX11_lay_32 (by decide) ?_
      refine x_istore (L' := [(4, .int (J 0)), (3, .int (J (-1))), (0, .ref a0), (1, .int x1), (2, .int x2)]) E dX11_lay_33 (by decide) rfl ?_
      refine x_sub (L' := [(0, .ref a0), (1, .int x1), (2, .int x2), (3, .int (J (-1))), (4, .int (J 0))]) [2, 3, 4, 1, 0] rfl ?_
      refine lp_sound (T := fun sv => xG p l e ({ frames := 3, cells := 0, slots := 0, locals := 73 } : Room) s m args below meth c (MQ below (va_Qi K (xWd z D cA) (xA z)) args s 0 0 (xA z)) 8 z D cA M (0) (0) 35 [(0, .ref a0), (1, .int x1), (2, .int x2), (3, .int sv.1), (4, .int sv.2)] []) ?_ ((J (-1)), (J 0)) h
      clear h
      intro kc35 hk35 sv h
      obtain ⟨x3, x4⟩ := sv
      replace h : CX11_lay_35 K kc22 M a0 x1 x2 kc35 x3 x4 := h
      try dsimp only
      refine x_iload E dX11_lay_35 4 rfl ?_
      refine x_aload_n E dX11_lay_37 rfl 0 rfl ?_
      obtain ⟨hT, v40, hv, h⟩ := h
      refine x_get E flX11_246 dX11_lay_38 hT hv ?_
      clear hT hv
      refine x_icmp_ge (tgt := 68) E dX11_lay_41 (by decide) (fun c41 => ?_) (fun c41 => ?_)
      · replace h := xbr_t h c41
        clear c41
        refine x_iload_n E dX11_lay_68 rfl 3 rfl ?_
        refine x_if_lt (tgt := 127) E dX11_lay_69 (by decide) (fun c42 => ?_) (fun c42 => ?_)
        · replace h := xbr_t h c42
          clear c42
          refine x_iinc (v := (x2 + (J 1))) (L' := [(2, .int (x2 + (J 1))), (0, .ref a0), (1, .int x1), (3, .int x3), (4, .int x4)]) E dX11_lay_127 2 rfl rfl (by decide) rfl ?_
          refine x_goto (tgt := 22) E dX11_lay_130 (by decide) ?_
          refine x_sub (L' := [(0, .ref a0), (1, .int x1), (2, .int (x2 + (J 1)))]) [1, 2, 0] rfl ?_
          exact hk22 (M, (x2 + (J 1))) h
        · replace h := xbr_f h c42
          clear c42
          refine x_iconst (v := (J 0)) E dX11_lay_72 (by decide) ?_
          refine x_istore (L' := [(4, .int (J 0)), (0, .ref a0), (1, .int x1), (2, .int x2), (3, .int x3)]) E dX11_lay_73 (by decide) rfl ?_
          refine x_iconst (v := (J 0)) E dX11_lay_75 (by decide) ?_
          refine x_istore (L' := [(5, .int (J 0)), (4, .int (J 0)), (0, .ref a0), (1, .int x1), (2, .int x2), (3, .int x3)]) E dX11_lay_76 (by decide) rfl ?_
          refine x_sub (L' := [(0, .ref a0), (1, .int x1), (2, .int x2), (4, .int (J 0)), (5, .int (J 0))]) [2, 3, 4, 1, 0] rfl ?_
          refine lp_sound (T := fun sv => xG p l e ({ frames := 3, cells := 0, slots := 0, locals := 73 } : Room) s m args below meth c (MQ below (va_Qi K (xWd z D cA) (xA z)) args s 0 0 (xA z)) 8 z D cA M (0) (0) 78 [(0, .ref a0), (1, .int x1), (2, .int x2), (4, .int sv.1), (5, .int sv.2)] []) ?_ ((J 0), (J 0)) h
          clear h
          intro kc78 hk78 sv h
          obtain ⟨x4, x5⟩ := sv
          replace h : CX11_lay_78 K kc22 M a0 x1 x2 kc78 x4 x5 := h
          try dsimp only
          refine x_iload E dX11_lay_78 4 rfl ?_
          refine x_aload_n E dX11_lay_80 rfl 0 rfl ?_
          obtain ⟨hT, v43, hv, h⟩ := h
          refine x_get E flX11_246 dX11_lay_81 hT hv ?_
          clear hT hv
          refine x_icmp_ge (tgt := 119) E dX11_lay_84 (by decide) (fun c44 => ?_) (fun c44 => ?_)
          · replace h := xbr_t h c44
            clear c44
            refine x_aload_n E dX11_lay_119 rfl 0 rfl ?_
            obtain ⟨hT, q45, hv, h⟩ := h
            refine x_get E flX11_28 dX11_lay_120 hT hv ?_
            clear hT hv
            refine x_iload E dX11_lay_123 3 rfl ?_
            refine x_iload_n E dX11_lay_125 rfl 2 rfl ?_
            obtain ⟨hT, hi, h⟩ := h
            refine x_iast E dX11_lay_126 hT hi (fun M46 eM46 => ?_)
            replace h := h M46 eM46
            clear hT hi eM46
            refine x_iinc (v := (x2 + (J 1))) (L' := [(2, .int (x2 + (J 1))), (0, .ref a0), (1, .int x1), (4, .int x4), (5, .int x5)]) E dX11_lay_127 2 rfl rfl (by decide) rfl ?_
            refine x_goto (tgt := 22) E dX11_lay_130 (by decide) ?_
            refine x_sub (L' := [(0, .ref a0), (1, .int x1), (2, .int (x2 + (J 1)))]) [1, 2, 0] rfl ?_
            exact hk22 (M46, (x2 + (J 1))) h
          · replace h := xbr_f h c44
            clear c44
            refine x_iload E dX11_lay_87 3 rfl ?_
            refine x_aload_n E dX11_lay_89 rfl 0 rfl ?_
            refine x_aload_n E dX11_lay_90 rfl 0 rfl ?_
            obtain ⟨hT, q47, hv, h⟩ := h
            refine x_get E flX11_47 dX11_lay_91 hT hv ?_
            clear hT hv
            refine x_iload E dX11_lay_94 4 rfl ?_
            obtain ⟨hT, hi, v48, hv, h⟩ := h
            refine x_iald E dX11_lay_96 hT hi hv ?_
            clear hT hi hv
            refine x_iload_n E dX11_lay_97 rfl 2 rfl ?_
            refine x_iconst (v := (J 0)) E dX11_lay_98 (by decide) ?_
            refine x_callVi (T := TX11) (N := 32) (t := 12) (As := [.int v48, .int x2, .int (J 0)]) E mlX11_214 inX11_isAhead seX11_isAhead rfl ⟨by decide, by decide⟩ (tX11_isAhead h) (kX11_isAhead l z D cA a0 v48 x2 (J 0) M _ h) rfl ⟨rfl, rfl⟩ ⟨Nat.le_of_ble_eq_true rfl, Nat.le_of_ble_eq_true rfl⟩ ⟨(Nat.le_of_ble_eq_true rfl), (Nat.le_of_ble_eq_true rfl)⟩ (Nat.le_of_ble_eq_true rfl) rfl dX11_lay_99 (x_pure (fun r49 h => ?_))
            refine x_if_eq (tgt := 109) E dX11_lay_102 (by decide) (fun c51 => ?_) (fun c51 => ?_)
            · replace h := xbr_t h c51
              clear c51
              refine x_iconst (v := (J 0)) E dX11_lay_109 (by decide) ?_
              refine x_iadd E dX11_lay_110 ?_
              obtain ⟨y52, ey52, h⟩ := h
              refine x_top (v := .int y52) (congrArg _ ey52) ?_
              clear ey52
              refine x_istore (L' := [(4, .int y52), (0, .ref a0), (1, .int x1), (2, .int x2), (5, .int x5)]) E dX11_lay_111 (by decide) rfl ?_
              refine x_iinc (v := (x5 + (J 1))) (L' := [(5, .int (x5 + (J 1))), (4, .int y52), (0, .ref a0), (1, .int x1), (2, .int x2)]) E dX11_lay_113 4 rfl rfl (by decide) rfl ?_
              refine x_goto (tgt := 78) E dX11_lay_116 (by decide) ?_
              refine x_sub (L' := [(0, .ref a0), (1, .int x1), (2, .int x2), (4, .int y52), (5, .int (x5 + (J 1)))]) [2, 3, 4, 1, 0] rfl ?_
              exact hk78 (y52, (x5 + (J 1))) h
            · replace h := xbr_f h c51
              clear c51
              refine x_iconst (v := (J 1)) E dX11_lay_105 (by decide) ?_
              refine x_goto (tgt := 110) E dX11_lay_106 (by decide) ?_
              refine x_iadd E dX11_lay_110 ?_
              obtain ⟨y53, ey53, h⟩ := h
              refine x_top (v := .int y53) (congrArg _ ey53) ?_
              clear ey53
              refine x_istore (L' := [(4, .int y53), (0, .ref a0), (1, .int x1), (2, .int x2), (5, .int x5)]) E dX11_lay_111 (by decide) rfl ?_
              refine x_iinc (v := (x5 + (J 1))) (L' := [(5, .int (x5 + (J 1))), (4, .int y53), (0, .ref a0), (1, .int x1), (2, .int x2)]) E dX11_lay_113 4 rfl rfl (by decide) rfl ?_
              refine x_goto (tgt := 78) E dX11_lay_116 (by decide) ?_
              refine x_sub (L' := [(0, .ref a0), (1, .int x1), (2, .int x2), (4, .int y53), (5, .int (x5 + (J 1)))]) [2, 3, 4, 1, 0] rfl ?_
              exact hk78 (y53, (x5 + (J 1))) h
      · replace h := xbr_f h c41
        clear c41
        refine x_aload_n E dX11_lay_44 rfl 0 rfl ?_
        obtain ⟨hT, q54, hv, h⟩ := h
        refine x_get E flX11_47 dX11_lay_45 hT hv ?_
        clear hT hv
        refine x_iload E dX11_lay_48 4 rfl ?_
        obtain ⟨hT, hi, v55, hv, h⟩ := h
        refine x_iald E dX11_lay_50 hT hi hv ?_
        clear hT hi hv
        refine x_iload_n E dX11_lay_51 rfl 2 rfl ?_
        refine x_icmp_ne (tgt := 60) E dX11_lay_52 (by decide) (fun c56 => ?_) (fun c56 => ?_)
        · replace h := xbr_f h c56
          clear c56
          refine x_iload_n E dX11_lay_60 rfl 3 rfl ?_
          refine x_istore_n (L' := [(3, .int x3), (0, .ref a0), (1, .int x1), (2, .int x2), (4, .int x4)]) E dX11_lay_61 rfl (by decide) rfl ?_
          refine x_iinc (v := (x4 + (J 1))) (L' := [(4, .int (x4 + (J 1))), (3, .int x3), (0, .ref a0), (1, .int x1), (2, .int x2)]) E dX11_lay_62 4 rfl rfl (by decide) rfl ?_
          refine x_goto (tgt := 35) E dX11_lay_65 (by decide) ?_
          refine x_sub (L' := [(0, .ref a0), (1, .int x1), (2, .int x2), (3, .int x3), (4, .int (x4 + (J 1)))]) [2, 3, 4, 1, 0] rfl ?_
          exact hk35 (x3, (x4 + (J 1))) h
        · replace h := xbr_t h c56
          clear c56
          refine x_iload E dX11_lay_55 4 rfl ?_
          refine x_goto (tgt := 61) E dX11_lay_57 (by decide) ?_
          refine x_istore_n (L' := [(3, .int x4), (0, .ref a0), (1, .int x1), (2, .int x2), (4, .int x4)]) E dX11_lay_61 rfl (by decide) rfl ?_
          refine x_iinc (v := (x4 + (J 1))) (L' := [(4, .int (x4 + (J 1))), (3, .int x4), (0, .ref a0), (1, .int x1), (2, .int x2)]) E dX11_lay_62 4 rfl rfl (by decide) rfl ?_
          refine x_goto (tgt := 35) E dX11_lay_65 (by decide) ?_
          refine x_sub (L' := [(0, .ref a0), (1, .int x1), (2, .int x2), (3, .int x4), (4, .int (x4 + (J 1)))]) [2, 3, 4, 1, 0] rfl ?_
          exact hk35 (x4, (x4 + (J 1))) h
  · replace h := xbr_t h c3
    clear c3
    refine x_sipush (v := (J (-1002))) E dX11_lay_12 (by decide) ?_
    exact x_iret E hr hlk dX11_lay_15 h
theorem dX11_makeLater_0 : decode cX11_makeLater 0 = .ok (.aload_n 0, 1) := by decide +kernel
theorem dX11_makeLater_1 : decode cX11_makeLater 1 = .ok (.iload_n 1, 1) := by decide +kernel
theorem dX11_makeLater_2 : decode cX11_makeLater 2 = .ok (.invokevirtual 239, 3) := by decide +kernel
theorem dX11_makeLater_5 : decode cX11_makeLater 5 = .ok (.iload_n 2, 1) := by decide +kernel
theorem dX11_makeLater_6 : decode cX11_makeLater 6 = .ok (.if_icmp .ge 43, 3) := by decide +kernel
theorem dX11_makeLater_9 : decode cX11_makeLater 9 = .ok (.aload_n 0, 1) := by decide +kernel
theorem dX11_makeLater_10 : decode cX11_makeLater 10 = .ok (.getfield 31, 3) := by decide +kernel
theorem dX11_makeLater_13 : decode cX11_makeLater 13 = .ok (.iload_n 1, 1) := by decide +kernel
theorem dX11_makeLater_14 : decode cX11_makeLater 14 = .ok (.iaload, 1) := by decide +kernel
theorem dX11_makeLater_15 : decode cX11_makeLater 15 = .ok (.ifCond .le 34, 3) := by decide +kernel
theorem dX11_makeLater_18 : decode cX11_makeLater 18 = .ok (.iload_n 1, 1) := by decide +kernel
theorem dX11_makeLater_19 : decode cX11_makeLater 19 = .ok (.bipush 7, 2) := by decide +kernel
theorem dX11_makeLater_21 : decode cX11_makeLater 21 = .ok (.if_icmp .ge 28, 3) := by decide +kernel
theorem dX11_makeLater_24 : decode cX11_makeLater 24 = .ok (.aload_n 0, 1) := by decide +kernel
theorem dX11_makeLater_25 : decode cX11_makeLater 25 = .ok (.getfield 31, 3) := by decide +kernel
theorem dX11_makeLater_28 : decode cX11_makeLater 28 = .ok (.iload_n 1, 1) := by decide +kernel
theorem dX11_makeLater_29 : decode cX11_makeLater 29 = .ok (.dup2, 1) := by decide +kernel
theorem dX11_makeLater_30 : decode cX11_makeLater 30 = .ok (.iaload, 1) := by decide +kernel
theorem dX11_makeLater_31 : decode cX11_makeLater 31 = .ok (.iconst 1, 1) := by decide +kernel
theorem dX11_makeLater_32 : decode cX11_makeLater 32 = .ok (.isub, 1) := by decide +kernel
theorem dX11_makeLater_33 : decode cX11_makeLater 33 = .ok (.iastore, 1) := by decide +kernel
theorem dX11_makeLater_34 : decode cX11_makeLater 34 = .ok (.aload_n 0, 1) := by decide +kernel
theorem dX11_makeLater_35 : decode cX11_makeLater 35 = .ok (.getfield 31, 3) := by decide +kernel
theorem dX11_makeLater_38 : decode cX11_makeLater 38 = .ok (.iload_n 1, 1) := by decide +kernel
theorem dX11_makeLater_39 : decode cX11_makeLater 39 = .ok (.iconst 1, 1) := by decide +kernel
theorem dX11_makeLater_40 : decode cX11_makeLater 40 = .ok (.iadd, 1) := by decide +kernel
theorem dX11_makeLater_41 : decode cX11_makeLater 41 = .ok (.dup2, 1) := by decide +kernel
theorem dX11_makeLater_42 : decode cX11_makeLater 42 = .ok (.iaload, 1) := by decide +kernel
theorem dX11_makeLater_43 : decode cX11_makeLater 43 = .ok (.iconst 1, 1) := by decide +kernel
theorem dX11_makeLater_44 : decode cX11_makeLater 44 = .ok (.iadd, 1) := by decide +kernel
theorem dX11_makeLater_45 : decode cX11_makeLater 45 = .ok (.iastore, 1) := by decide +kernel
theorem dX11_makeLater_46 : decode cX11_makeLater 46 = .ok (.goto (-46), 3) := by decide +kernel
theorem dX11_makeLater_49 : decode cX11_makeLater 49 = .ok (.aload_n 0, 1) := by decide +kernel
theorem dX11_makeLater_50 : decode cX11_makeLater 50 = .ok (.iload_n 1, 1) := by decide +kernel
theorem dX11_makeLater_51 : decode cX11_makeLater 51 = .ok (.invokevirtual 239, 3) := by decide +kernel
theorem dX11_makeLater_54 : decode cX11_makeLater 54 = .ok (.iload_n 2, 1) := by decide +kernel
theorem dX11_makeLater_55 : decode cX11_makeLater 55 = .ok (.if_icmp .lt 15, 3) := by decide +kernel
theorem dX11_makeLater_58 : decode cX11_makeLater 58 = .ok (.aload_n 0, 1) := by decide +kernel
theorem dX11_makeLater_59 : decode cX11_makeLater 59 = .ok (.iload_n 1, 1) := by decide +kernel
theorem dX11_makeLater_60 : decode cX11_makeLater 60 = .ok (.invokevirtual 255, 3) := by decide +kernel
theorem dX11_makeLater_63 : decode cX11_makeLater 63 = .ok (.ifCond .eq 7, 3) := by decide +kernel
theorem dX11_makeLater_66 : decode cX11_makeLater 66 = .ok (.iconst 1, 1) := by decide +kernel
theorem dX11_makeLater_67 : decode cX11_makeLater 67 = .ok (.goto 4, 3) := by decide +kernel
theorem dX11_makeLater_70 : decode cX11_makeLater 70 = .ok (.iconst 0, 1) := by decide +kernel
theorem dX11_makeLater_71 : decode cX11_makeLater 71 = .ok (.ireturn, 1) := by decide +kernel
set_option maxHeartbeats 4000000 in
set_option maxRecDepth 100000 in
theorem kX11_makeLater (l : Launch) (z : Nat) (D : va_G) (cA : Nat → ClassId) (a0 : Nat) (x1 : Int32) (x2 : Int32) (M : Mem) (K : Int32 → Mem → Prop) (h : PX11_makeLater a0 x1 x2 M K) : Met l yX11_makeLater (.code yX11_makeLater cX11_makeLater 3 (some .boolean) :: gtbl) ({ frames := 4, cells := 0, slots := 0, locals := 90 } : Room) (va_Pc [.ref a0, .int x1, .int x2] (xB z D cA M)) (va_Qi K (xWd z D cA) (xA z)) 0 0 (xA z) := by
  refine x_met (by decide +kernel) (Nat.le_of_ble_eq_true rfl) (L0 := [(0, .ref a0), (1, .int x1), (2, .int x2)]) rfl ?_
  intro p e s m args below meth c E hr hlk hnm
  have E : xE RX11 cX11_makeLater 3 D cA p s m args c := E
  have hJ49 : ∀ (M : Mem) (j0 : Nat) (j1 : Int32) (j2 : Int32), JX11_makeLater_49 K M j0 j1 j2 → xG p l e ({ frames := 4, cells := 0, slots := 0, locals := 90 } : Room) s m args below meth c (MQ below (va_Qi K (xWd z D cA) (xA z)) args s 0 0 (xA z)) 3 z D cA M (0) (0) 49 [(0, .ref j0), (1, .int j1), (2, .int j2)] [] := by
    intro M j0 j1 j2 h
    refine x_aload_n E dX11_makeLater_49 rfl 0 rfl ?_
    refine x_iload_n E dX11_makeLater_50 rfl 1 rfl ?_
    refine x_callVi (T := TX11) (N := 32) (t := 12) (As := [.int j1]) E mlX11_239 inX11_roomOn seX11_roomOn rfl ⟨by decide, by decide⟩ (tX11_roomOn h) (kX11_roomOn l z D cA j0 j1 M _ h) rfl ⟨rfl, rfl⟩ ⟨Nat.le_of_ble_eq_true rfl, Nat.le_of_ble_eq_true rfl⟩ ⟨(Nat.le_of_ble_eq_true rfl), (Nat.le_of_ble_eq_true rfl)⟩ (Nat.le_of_ble_eq_true rfl) rfl dX11_makeLater_51 (x_pure (fun r4 h => ?_))
    refine x_iload_n E dX11_makeLater_54 rfl 2 rfl ?_
    refine x_icmp_lt (tgt := 70) E dX11_makeLater_55 (by decide) (fun c6 => ?_) (fun c6 => ?_)
    · replace h := xbr_t h c6
      clear c6
      refine x_iconst (v := (J 0)) E dX11_makeLater_70 (by decide) ?_
      exact x_zret E hr hlk dX11_makeLater_71 h.1 h.2
    · replace h := xbr_f h c6
      clear c6
      refine x_aload_n E dX11_makeLater_58 rfl 0 rfl ?_
      refine x_iload_n E dX11_makeLater_59 rfl 1 rfl ?_
      refine x_callVi (T := TX11) (N := 32) (t := 12) (As := [.int j1]) E mlX11_255 inX11_push seX11_push rfl ⟨by decide, by decide⟩ (tX11_push h) (kX11_push l z D cA j0 j1 M _ h) rfl ⟨rfl, rfl⟩ ⟨Nat.le_of_ble_eq_true rfl, Nat.le_of_ble_eq_true rfl⟩ ⟨(Nat.le_of_ble_eq_true rfl), (Nat.le_of_ble_eq_true rfl)⟩ (Nat.le_of_ble_eq_true rfl) rfl dX11_makeLater_60 (fun r7 M8 h => ?_)
      refine x_if_eq (tgt := 70) E dX11_makeLater_63 (by decide) (fun c9 => ?_) (fun c9 => ?_)
      · replace h := xbr_t h c9
        clear c9
        refine x_iconst (v := (J 0)) E dX11_makeLater_70 (by decide) ?_
        exact x_zret E hr hlk dX11_makeLater_71 h.1 h.2
      · replace h := xbr_f h c9
        clear c9
        refine x_iconst (v := (J 1)) E dX11_makeLater_66 (by decide) ?_
        refine x_goto (tgt := 71) E dX11_makeLater_67 (by decide) ?_
        exact x_zret E hr hlk dX11_makeLater_71 h.1 h.2
  replace h := h.2
  refine lp_sound (T := fun sv => xG p l e ({ frames := 4, cells := 0, slots := 0, locals := 90 } : Room) s m args below meth c (MQ below (va_Qi K (xWd z D cA) (xA z)) args s 0 0 (xA z)) 3 z D cA sv (0) (0) 0 [(0, .ref a0), (1, .int x1), (2, .int x2)] []) ?_ M h
  clear h
  intro kc0 hk0 sv h
  obtain ⟨M, esv⟩ : ∃ y, y = sv := ⟨_, rfl⟩
  subst esv
  replace h : CX11_makeLater_0 K a0 x1 x2 kc0 M := h
  try dsimp only
  refine x_aload_n E dX11_makeLater_0 rfl 0 rfl ?_
  refine x_iload_n E dX11_makeLater_1 rfl 1 rfl ?_
  refine x_callVi (T := TX11) (N := 32) (t := 12) (As := [.int x1]) E mlX11_239 inX11_roomOn seX11_roomOn rfl ⟨by decide, by decide⟩ (tX11_roomOn h) (kX11_roomOn l z D cA a0 x1 M _ h) rfl ⟨rfl, rfl⟩ ⟨Nat.le_of_ble_eq_true rfl, Nat.le_of_ble_eq_true rfl⟩ ⟨(Nat.le_of_ble_eq_true rfl), (Nat.le_of_ble_eq_true rfl)⟩ (Nat.le_of_ble_eq_true rfl) rfl dX11_makeLater_2 (x_pure (fun r1 h => ?_))
  refine x_iload_n E dX11_makeLater_5 rfl 2 rfl ?_
  refine x_icmp_ge (tgt := 49) E dX11_makeLater_6 (by decide) (fun c3 => ?_) (fun c3 => ?_)
  · replace h := xbr_t h c3
    clear c3
    exact hJ49 M a0 x1 x2 h
  · replace h := xbr_f h c3
    clear c3
    refine x_aload_n E dX11_makeLater_9 rfl 0 rfl ?_
    obtain ⟨hT, q10, hv, h⟩ := h
    refine x_get E flX11_31 dX11_makeLater_10 hT hv ?_
    clear hT hv
    refine x_iload_n E dX11_makeLater_13 rfl 1 rfl ?_
    obtain ⟨hT, hi, v11, hv, h⟩ := h
    refine x_iald E dX11_makeLater_14 hT hi hv ?_
    clear hT hi hv
    refine x_if_le (tgt := 49) E dX11_makeLater_15 (by decide) (fun c12 => ?_) (fun c12 => ?_)
    · replace h := xbr_t h c12
      clear c12
      exact hJ49 M a0 x1 x2 h
    · replace h := xbr_f h c12
      clear c12
      refine x_iload_n E dX11_makeLater_18 rfl 1 rfl ?_
      refine x_bipush (v := (J 7)) E dX11_makeLater_19 (by decide) ?_
      refine x_icmp_ge (tgt := 49) E dX11_makeLater_21 (by decide) (fun c13 => ?_) (fun c13 => ?_)
      · replace h := xbr_t h c13
        clear c13
        exact hJ49 M a0 x1 x2 h
      · replace h := xbr_f h c13
        clear c13
        refine x_aload_n E dX11_makeLater_24 rfl 0 rfl ?_
        obtain ⟨hT, q14, hv, h⟩ := h
        refine x_get E flX11_31 dX11_makeLater_25 hT hv ?_
        clear hT hv
        refine x_iload_n E dX11_makeLater_28 rfl 1 rfl ?_
        refine x_dup2 E dX11_makeLater_29 rfl rfl ?_
        obtain ⟨hT, hi, v15, hv, h⟩ := h
        refine x_iald E dX11_makeLater_30 hT hi hv ?_
        clear hT hi hv
        refine x_iconst (v := (J 1)) E dX11_makeLater_31 (by decide) ?_
        refine x_isub E dX11_makeLater_32 ?_
        obtain ⟨hT, hi, h⟩ := h
        refine x_iast E dX11_makeLater_33 hT hi (fun M16 eM16 => ?_)
        replace h := h M16 eM16
        clear hT hi eM16
        refine x_aload_n E dX11_makeLater_34 rfl 0 rfl ?_
        obtain ⟨hT, q17, hv, h⟩ := h
        refine x_get E flX11_31 dX11_makeLater_35 hT hv ?_
        clear hT hv
        refine x_iload_n E dX11_makeLater_38 rfl 1 rfl ?_
        refine x_iconst (v := (J 1)) E dX11_makeLater_39 (by decide) ?_
        refine x_iadd E dX11_makeLater_40 ?_
        refine x_dup2 E dX11_makeLater_41 rfl rfl ?_
        obtain ⟨hT, hi, v18, hv, h⟩ := h
        refine x_iald E dX11_makeLater_42 hT hi hv ?_
        clear hT hi hv
        refine x_iconst (v := (J 1)) E dX11_makeLater_43 (by decide) ?_
        refine x_iadd E dX11_makeLater_44 ?_
        obtain ⟨hT, hi, h⟩ := h
        refine x_iast E dX11_makeLater_45 hT hi (fun M19 eM19 => ?_)
        replace h := h M19 eM19
        clear hT hi eM19
        refine x_goto (tgt := 0) E dX11_makeLater_46 (by decide) ?_
        exact hk0 M19 h
theorem dX11_makeEarlier_0 : decode cX11_makeEarlier 0 = .ok (.aload_n 0, 1) := by decide +kernel
theorem dX11_makeEarlier_1 : decode cX11_makeEarlier 1 = .ok (.iload_n 1, 1) := by decide +kernel
theorem dX11_makeEarlier_2 : decode cX11_makeEarlier 2 = .ok (.invokevirtual 239, 3) := by decide +kernel
theorem dX11_makeEarlier_5 : decode cX11_makeEarlier 5 = .ok (.iload_n 2, 1) := by decide +kernel
theorem dX11_makeEarlier_6 : decode cX11_makeEarlier 6 = .ok (.if_icmp .ge 41, 3) := by decide +kernel
theorem dX11_makeEarlier_9 : decode cX11_makeEarlier 9 = .ok (.aload_n 0, 1) := by decide +kernel
theorem dX11_makeEarlier_10 : decode cX11_makeEarlier 10 = .ok (.getfield 31, 3) := by decide +kernel
theorem dX11_makeEarlier_13 : decode cX11_makeEarlier 13 = .ok (.iload_n 1, 1) := by decide +kernel
theorem dX11_makeEarlier_14 : decode cX11_makeEarlier 14 = .ok (.iaload, 1) := by decide +kernel
theorem dX11_makeEarlier_15 : decode cX11_makeEarlier 15 = .ok (.ifCond .le 32, 3) := by decide +kernel
theorem dX11_makeEarlier_18 : decode cX11_makeEarlier 18 = .ok (.iload_n 1, 1) := by decide +kernel
theorem dX11_makeEarlier_19 : decode cX11_makeEarlier 19 = .ok (.ifCond .le 28, 3) := by decide +kernel
theorem dX11_makeEarlier_22 : decode cX11_makeEarlier 22 = .ok (.aload_n 0, 1) := by decide +kernel
theorem dX11_makeEarlier_23 : decode cX11_makeEarlier 23 = .ok (.getfield 31, 3) := by decide +kernel
theorem dX11_makeEarlier_26 : decode cX11_makeEarlier 26 = .ok (.iload_n 1, 1) := by decide +kernel
theorem dX11_makeEarlier_27 : decode cX11_makeEarlier 27 = .ok (.dup2, 1) := by decide +kernel
theorem dX11_makeEarlier_28 : decode cX11_makeEarlier 28 = .ok (.iaload, 1) := by decide +kernel
theorem dX11_makeEarlier_29 : decode cX11_makeEarlier 29 = .ok (.iconst 1, 1) := by decide +kernel
theorem dX11_makeEarlier_30 : decode cX11_makeEarlier 30 = .ok (.isub, 1) := by decide +kernel
theorem dX11_makeEarlier_31 : decode cX11_makeEarlier 31 = .ok (.iastore, 1) := by decide +kernel
theorem dX11_makeEarlier_32 : decode cX11_makeEarlier 32 = .ok (.aload_n 0, 1) := by decide +kernel
theorem dX11_makeEarlier_33 : decode cX11_makeEarlier 33 = .ok (.getfield 31, 3) := by decide +kernel
theorem dX11_makeEarlier_36 : decode cX11_makeEarlier 36 = .ok (.iload_n 1, 1) := by decide +kernel
theorem dX11_makeEarlier_37 : decode cX11_makeEarlier 37 = .ok (.iconst 1, 1) := by decide +kernel
theorem dX11_makeEarlier_38 : decode cX11_makeEarlier 38 = .ok (.isub, 1) := by decide +kernel
theorem dX11_makeEarlier_39 : decode cX11_makeEarlier 39 = .ok (.dup2, 1) := by decide +kernel
theorem dX11_makeEarlier_40 : decode cX11_makeEarlier 40 = .ok (.iaload, 1) := by decide +kernel
theorem dX11_makeEarlier_41 : decode cX11_makeEarlier 41 = .ok (.iconst 1, 1) := by decide +kernel
theorem dX11_makeEarlier_42 : decode cX11_makeEarlier 42 = .ok (.iadd, 1) := by decide +kernel
theorem dX11_makeEarlier_43 : decode cX11_makeEarlier 43 = .ok (.iastore, 1) := by decide +kernel
theorem dX11_makeEarlier_44 : decode cX11_makeEarlier 44 = .ok (.goto (-44), 3) := by decide +kernel
theorem dX11_makeEarlier_47 : decode cX11_makeEarlier 47 = .ok (.aload_n 0, 1) := by decide +kernel
theorem dX11_makeEarlier_48 : decode cX11_makeEarlier 48 = .ok (.iload_n 1, 1) := by decide +kernel
theorem dX11_makeEarlier_49 : decode cX11_makeEarlier 49 = .ok (.invokevirtual 239, 3) := by decide +kernel
theorem dX11_makeEarlier_52 : decode cX11_makeEarlier 52 = .ok (.iload_n 2, 1) := by decide +kernel
theorem dX11_makeEarlier_53 : decode cX11_makeEarlier 53 = .ok (.if_icmp .lt 7, 3) := by decide +kernel
theorem dX11_makeEarlier_56 : decode cX11_makeEarlier 56 = .ok (.iconst 1, 1) := by decide +kernel
theorem dX11_makeEarlier_57 : decode cX11_makeEarlier 57 = .ok (.goto 4, 3) := by decide +kernel
theorem dX11_makeEarlier_60 : decode cX11_makeEarlier 60 = .ok (.iconst 0, 1) := by decide +kernel
theorem dX11_makeEarlier_61 : decode cX11_makeEarlier 61 = .ok (.istore_n 3, 1) := by decide +kernel
theorem dX11_makeEarlier_62 : decode cX11_makeEarlier 62 = .ok (.iload_n 1, 1) := by decide +kernel
theorem dX11_makeEarlier_63 : decode cX11_makeEarlier 63 = .ok (.iconst 1, 1) := by decide +kernel
theorem dX11_makeEarlier_64 : decode cX11_makeEarlier 64 = .ok (.isub, 1) := by decide +kernel
theorem dX11_makeEarlier_65 : decode cX11_makeEarlier 65 = .ok (.istore 4, 2) := by decide +kernel
theorem dX11_makeEarlier_67 : decode cX11_makeEarlier 67 = .ok (.iload 4, 2) := by decide +kernel
theorem dX11_makeEarlier_69 : decode cX11_makeEarlier 69 = .ok (.ifCond .lt 69, 3) := by decide +kernel
theorem dX11_makeEarlier_72 : decode cX11_makeEarlier 72 = .ok (.iload_n 3, 1) := by decide +kernel
theorem dX11_makeEarlier_73 : decode cX11_makeEarlier 73 = .ok (.ifCond .eq 65, 3) := by decide +kernel
theorem dX11_makeEarlier_76 : decode cX11_makeEarlier 76 = .ok (.aload_n 0, 1) := by decide +kernel
theorem dX11_makeEarlier_77 : decode cX11_makeEarlier 77 = .ok (.iload 4, 2) := by decide +kernel
theorem dX11_makeEarlier_79 : decode cX11_makeEarlier 79 = .ok (.invokevirtual 239, 3) := by decide +kernel
theorem dX11_makeEarlier_82 : decode cX11_makeEarlier 82 = .ok (.ifCond .ge 35, 3) := by decide +kernel
theorem dX11_makeEarlier_85 : decode cX11_makeEarlier 85 = .ok (.iload 4, 2) := by decide +kernel
theorem dX11_makeEarlier_87 : decode cX11_makeEarlier 87 = .ok (.ifCond .le 30, 3) := by decide +kernel
theorem dX11_makeEarlier_90 : decode cX11_makeEarlier 90 = .ok (.aload_n 0, 1) := by decide +kernel
theorem dX11_makeEarlier_91 : decode cX11_makeEarlier 91 = .ok (.getfield 31, 3) := by decide +kernel
theorem dX11_makeEarlier_94 : decode cX11_makeEarlier 94 = .ok (.iload 4, 2) := by decide +kernel
theorem dX11_makeEarlier_96 : decode cX11_makeEarlier 96 = .ok (.dup2, 1) := by decide +kernel
theorem dX11_makeEarlier_97 : decode cX11_makeEarlier 97 = .ok (.iaload, 1) := by decide +kernel
theorem dX11_makeEarlier_98 : decode cX11_makeEarlier 98 = .ok (.iconst 1, 1) := by decide +kernel
theorem dX11_makeEarlier_99 : decode cX11_makeEarlier 99 = .ok (.isub, 1) := by decide +kernel
theorem dX11_makeEarlier_100 : decode cX11_makeEarlier 100 = .ok (.iastore, 1) := by decide +kernel
theorem dX11_makeEarlier_101 : decode cX11_makeEarlier 101 = .ok (.aload_n 0, 1) := by decide +kernel
theorem dX11_makeEarlier_102 : decode cX11_makeEarlier 102 = .ok (.getfield 31, 3) := by decide +kernel
theorem dX11_makeEarlier_105 : decode cX11_makeEarlier 105 = .ok (.iload 4, 2) := by decide +kernel
theorem dX11_makeEarlier_107 : decode cX11_makeEarlier 107 = .ok (.iconst 1, 1) := by decide +kernel
theorem dX11_makeEarlier_108 : decode cX11_makeEarlier 108 = .ok (.isub, 1) := by decide +kernel
theorem dX11_makeEarlier_109 : decode cX11_makeEarlier 109 = .ok (.dup2, 1) := by decide +kernel
theorem dX11_makeEarlier_110 : decode cX11_makeEarlier 110 = .ok (.iaload, 1) := by decide +kernel
theorem dX11_makeEarlier_111 : decode cX11_makeEarlier 111 = .ok (.iconst 1, 1) := by decide +kernel
theorem dX11_makeEarlier_112 : decode cX11_makeEarlier 112 = .ok (.iadd, 1) := by decide +kernel
theorem dX11_makeEarlier_113 : decode cX11_makeEarlier 113 = .ok (.iastore, 1) := by decide +kernel
theorem dX11_makeEarlier_114 : decode cX11_makeEarlier 114 = .ok (.goto (-38), 3) := by decide +kernel
theorem dX11_makeEarlier_117 : decode cX11_makeEarlier 117 = .ok (.aload_n 0, 1) := by decide +kernel
theorem dX11_makeEarlier_118 : decode cX11_makeEarlier 118 = .ok (.iload 4, 2) := by decide +kernel
theorem dX11_makeEarlier_120 : decode cX11_makeEarlier 120 = .ok (.invokevirtual 239, 3) := by decide +kernel
theorem dX11_makeEarlier_123 : decode cX11_makeEarlier 123 = .ok (.ifCond .lt 7, 3) := by decide +kernel
theorem dX11_makeEarlier_126 : decode cX11_makeEarlier 126 = .ok (.iconst 1, 1) := by decide +kernel
theorem dX11_makeEarlier_127 : decode cX11_makeEarlier 127 = .ok (.goto 4, 3) := by decide +kernel
theorem dX11_makeEarlier_130 : decode cX11_makeEarlier 130 = .ok (.iconst 0, 1) := by decide +kernel
theorem dX11_makeEarlier_131 : decode cX11_makeEarlier 131 = .ok (.istore_n 3, 1) := by decide +kernel
theorem dX11_makeEarlier_132 : decode cX11_makeEarlier 132 = .ok (.iinc 4 (-1), 3) := by decide +kernel
theorem dX11_makeEarlier_135 : decode cX11_makeEarlier 135 = .ok (.goto (-68), 3) := by decide +kernel
theorem dX11_makeEarlier_138 : decode cX11_makeEarlier 138 = .ok (.iload_n 3, 1) := by decide +kernel
theorem dX11_makeEarlier_139 : decode cX11_makeEarlier 139 = .ok (.ireturn, 1) := by decide +kernel
set_option maxHeartbeats 4000000 in
set_option maxRecDepth 100000 in
theorem kX11_makeEarlier (l : Launch) (z : Nat) (D : va_G) (cA : Nat → ClassId) (a0 : Nat) (x1 : Int32) (x2 : Int32) (M : Mem) (K : Int32 → Mem → Prop) (h : PX11_makeEarlier a0 x1 x2 M K) : Met l yX11_makeEarlier (.code yX11_makeEarlier cX11_makeEarlier 5 (some .boolean) :: gtbl) ({ frames := 3, cells := 0, slots := 0, locals := 68 } : Room) (va_Pc [.ref a0, .int x1, .int x2] (xB z D cA M)) (va_Qi K (xWd z D cA) (xA z)) 0 0 (xA z) := by
  refine x_met (by decide +kernel) (Nat.le_of_ble_eq_true rfl) (L0 := [(0, .ref a0), (1, .int x1), (2, .int x2)]) rfl ?_
  intro p e s m args below meth c E hr hlk hnm
  have E : xE RX11 cX11_makeEarlier 5 D cA p s m args c := E
  have hJ61 : ∀ (M : Mem) (j0 : Nat) (j1 : Int32) (s0 : Int32), JX11_makeEarlier_61 K M j0 j1 s0 → xG p l e ({ frames := 3, cells := 0, slots := 0, locals := 68 } : Room) s m args below meth c (MQ below (va_Qi K (xWd z D cA) (xA z)) args s 0 0 (xA z)) 5 z D cA M (0) (0) 61 [(0, .ref j0), (1, .int j1)] [.int s0] := by
    intro M j0 j1 s0 h
    refine x_istore_n (L' := [(3, .int s0), (0, .ref j0), (1, .int j1)]) E dX11_makeEarlier_61 rfl (by decide) rfl ?_
    refine x_iload_n E dX11_makeEarlier_62 rfl 2 rfl ?_
    refine x_iconst (v := (J 1)) E dX11_makeEarlier_63 (by decide) ?_
    refine x_isub E dX11_makeEarlier_64 ?_
    obtain ⟨y7, ey7, h⟩ := h
    refine x_top (v := .int y7) (congrArg _ ey7) ?_
    clear ey7
    refine x_istore (L' := [(4, .int y7), (3, .int s0), (0, .ref j0), (1, .int j1)]) E dX11_makeEarlier_65 (by decide) rfl ?_
    refine x_sub (L' := [(0, .ref j0), (3, .int s0), (4, .int y7)]) [2, 1, 0] rfl ?_
    refine lp_sound (T := fun sv => xG p l e ({ frames := 3, cells := 0, slots := 0, locals := 68 } : Room) s m args below meth c (MQ below (va_Qi K (xWd z D cA) (xA z)) args s 0 0 (xA z)) 5 z D cA sv.1 (0) (0) 67 [(0, .ref j0), (3, .int sv.2.1), (4, .int sv.2.2)] []) ?_ (M, s0, y7) h
    clear h
    intro kc67 hk67 sv h
    obtain ⟨M, x3, x4⟩ := sv
    replace h : CX11_makeEarlier_67 K j0 kc67 M x3 x4 := h
    try dsimp only
    have hJ117 : ∀ (M : Mem) (j4 : Int32), JX11_makeEarlier_117 K kc67 M j0 j4 → xG p l e ({ frames := 3, cells := 0, slots := 0, locals := 68 } : Room) s m args below meth c (MQ below (va_Qi K (xWd z D cA) (xA z)) args s 0 0 (xA z)) 5 z D cA M (0) (0) 117 [(0, .ref j0), (4, .int j4)] [] := by
      intro M j4 h
      refine x_aload_n E dX11_makeEarlier_117 rfl 0 rfl ?_
      refine x_iload E dX11_makeEarlier_118 1 rfl ?_
      refine x_callVi (T := TX11) (N := 32) (t := 12) (As := [.int j4]) E mlX11_239 inX11_roomOn seX11_roomOn rfl ⟨by decide, by decide⟩ (tX11_roomOn h) (kX11_roomOn l z D cA j0 j4 M _ h) rfl ⟨rfl, rfl⟩ ⟨Nat.le_of_ble_eq_true rfl, Nat.le_of_ble_eq_true rfl⟩ ⟨(Nat.le_of_ble_eq_true rfl), (Nat.le_of_ble_eq_true rfl)⟩ (Nat.le_of_ble_eq_true rfl) rfl dX11_makeEarlier_120 (x_pure (fun r13 h => ?_))
      refine x_if_lt (tgt := 130) E dX11_makeEarlier_123 (by decide) (fun c15 => ?_) (fun c15 => ?_)
      · replace h := xbr_t h c15
        clear c15
        refine x_iconst (v := (J 0)) E dX11_makeEarlier_130 (by decide) ?_
        refine x_istore_n (L' := [(3, .int (J 0)), (0, .ref j0), (4, .int j4)]) E dX11_makeEarlier_131 rfl (by decide) rfl ?_
        refine x_iinc (v := (j4 + (J (-1)))) (L' := [(4, .int (j4 + (J (-1)))), (3, .int (J 0)), (0, .ref j0)]) E dX11_makeEarlier_132 2 rfl rfl (by decide) rfl ?_
        refine x_goto (tgt := 67) E dX11_makeEarlier_135 (by decide) ?_
        refine x_sub (L' := [(0, .ref j0), (3, .int (J 0)), (4, .int (j4 + (J (-1))))]) [2, 1, 0] rfl ?_
        exact hk67 (M, (J 0), (j4 + (J (-1)))) h
      · replace h := xbr_f h c15
        clear c15
        refine x_iconst (v := (J 1)) E dX11_makeEarlier_126 (by decide) ?_
        refine x_goto (tgt := 131) E dX11_makeEarlier_127 (by decide) ?_
        refine x_istore_n (L' := [(3, .int (J 1)), (0, .ref j0), (4, .int j4)]) E dX11_makeEarlier_131 rfl (by decide) rfl ?_
        refine x_iinc (v := (j4 + (J (-1)))) (L' := [(4, .int (j4 + (J (-1)))), (3, .int (J 1)), (0, .ref j0)]) E dX11_makeEarlier_132 2 rfl rfl (by decide) rfl ?_
        refine x_goto (tgt := 67) E dX11_makeEarlier_135 (by decide) ?_
        refine x_sub (L' := [(0, .ref j0), (3, .int (J 1)), (4, .int (j4 + (J (-1))))]) [2, 1, 0] rfl ?_
        exact hk67 (M, (J 1), (j4 + (J (-1)))) h
    refine x_iload E dX11_makeEarlier_67 2 rfl ?_
    refine x_if_lt (tgt := 138) E dX11_makeEarlier_69 (by decide) (fun c8 => ?_) (fun c8 => ?_)
    · replace h := xbr_t h c8
      clear c8
      refine x_iload_n E dX11_makeEarlier_138 rfl 1 rfl ?_
      exact x_zret E hr hlk dX11_makeEarlier_139 h.1 h.2
    · replace h := xbr_f h c8
      clear c8
      refine x_iload_n E dX11_makeEarlier_72 rfl 1 rfl ?_
      refine x_if_eq (tgt := 138) E dX11_makeEarlier_73 (by decide) (fun c9 => ?_) (fun c9 => ?_)
      · replace h := xbr_t h c9
        clear c9
        refine x_iload_n E dX11_makeEarlier_138 rfl 1 rfl ?_
        exact x_zret E hr hlk dX11_makeEarlier_139 h.1 h.2
      · replace h := xbr_f h c9
        clear c9
        refine x_sub (L' := [(0, .ref j0), (4, .int x4)]) [0, 2] rfl ?_
        refine lp_sound (T := fun sv => xG p l e ({ frames := 3, cells := 0, slots := 0, locals := 68 } : Room) s m args below meth c (MQ below (va_Qi K (xWd z D cA) (xA z)) args s 0 0 (xA z)) 5 z D cA sv (0) (0) 76 [(0, .ref j0), (4, .int x4)] []) ?_ M h
        clear h
        intro kc76 hk76 sv h
        obtain ⟨M, esv⟩ : ∃ y, y = sv := ⟨_, rfl⟩
        subst esv
        replace h : CX11_makeEarlier_76 K kc67 j0 x4 kc76 M := h
        try dsimp only
        refine x_aload_n E dX11_makeEarlier_76 rfl 0 rfl ?_
        refine x_iload E dX11_makeEarlier_77 1 rfl ?_
        refine x_callVi (T := TX11) (N := 32) (t := 12) (As := [.int x4]) E mlX11_239 inX11_roomOn seX11_roomOn rfl ⟨by decide, by decide⟩ (tX11_roomOn h) (kX11_roomOn l z D cA j0 x4 M _ h) rfl ⟨rfl, rfl⟩ ⟨Nat.le_of_ble_eq_true rfl, Nat.le_of_ble_eq_true rfl⟩ ⟨(Nat.le_of_ble_eq_true rfl), (Nat.le_of_ble_eq_true rfl)⟩ (Nat.le_of_ble_eq_true rfl) rfl dX11_makeEarlier_79 (x_pure (fun r10 h => ?_))
        refine x_if_ge (tgt := 117) E dX11_makeEarlier_82 (by decide) (fun c12 => ?_) (fun c12 => ?_)
        · replace h := xbr_t h c12
          clear c12
          exact hJ117 M x4 h
        · replace h := xbr_f h c12
          clear c12
          refine x_iload E dX11_makeEarlier_85 1 rfl ?_
          refine x_if_le (tgt := 117) E dX11_makeEarlier_87 (by decide) (fun c16 => ?_) (fun c16 => ?_)
          · replace h := xbr_t h c16
            clear c16
            exact hJ117 M x4 h
          · replace h := xbr_f h c16
            clear c16
            refine x_aload_n E dX11_makeEarlier_90 rfl 0 rfl ?_
            obtain ⟨hT, q17, hv, h⟩ := h
            refine x_get E flX11_31 dX11_makeEarlier_91 hT hv ?_
            clear hT hv
            refine x_iload E dX11_makeEarlier_94 1 rfl ?_
            refine x_dup2 E dX11_makeEarlier_96 rfl rfl ?_
            obtain ⟨hT, hi, v18, hv, h⟩ := h
            refine x_iald E dX11_makeEarlier_97 hT hi hv ?_
            clear hT hi hv
            refine x_iconst (v := (J 1)) E dX11_makeEarlier_98 (by decide) ?_
            refine x_isub E dX11_makeEarlier_99 ?_
            obtain ⟨hT, hi, h⟩ := h
            refine x_iast E dX11_makeEarlier_100 hT hi (fun M19 eM19 => ?_)
            replace h := h M19 eM19
            clear hT hi eM19
            refine x_aload_n E dX11_makeEarlier_101 rfl 0 rfl ?_
            obtain ⟨hT, q20, hv, h⟩ := h
            refine x_get E flX11_31 dX11_makeEarlier_102 hT hv ?_
            clear hT hv
            refine x_iload E dX11_makeEarlier_105 1 rfl ?_
            refine x_iconst (v := (J 1)) E dX11_makeEarlier_107 (by decide) ?_
            refine x_isub E dX11_makeEarlier_108 ?_
            refine x_dup2 E dX11_makeEarlier_109 rfl rfl ?_
            obtain ⟨hT, hi, v21, hv, h⟩ := h
            refine x_iald E dX11_makeEarlier_110 hT hi hv ?_
            clear hT hi hv
            refine x_iconst (v := (J 1)) E dX11_makeEarlier_111 (by decide) ?_
            refine x_iadd E dX11_makeEarlier_112 ?_
            obtain ⟨hT, hi, h⟩ := h
            refine x_iast E dX11_makeEarlier_113 hT hi (fun M22 eM22 => ?_)
            replace h := h M22 eM22
            clear hT hi eM22
            refine x_goto (tgt := 76) E dX11_makeEarlier_114 (by decide) ?_
            exact hk76 M22 h
  have hJ47 : ∀ (M : Mem) (j0 : Nat) (j1 : Int32) (j2 : Int32), JX11_makeEarlier_47 K M j0 j1 j2 → xG p l e ({ frames := 3, cells := 0, slots := 0, locals := 68 } : Room) s m args below meth c (MQ below (va_Qi K (xWd z D cA) (xA z)) args s 0 0 (xA z)) 5 z D cA M (0) (0) 47 [(0, .ref j0), (1, .int j1), (2, .int j2)] [] := by
    intro M j0 j1 j2 h
    refine x_aload_n E dX11_makeEarlier_47 rfl 0 rfl ?_
    refine x_iload_n E dX11_makeEarlier_48 rfl 1 rfl ?_
    refine x_callVi (T := TX11) (N := 32) (t := 12) (As := [.int j1]) E mlX11_239 inX11_roomOn seX11_roomOn rfl ⟨by decide, by decide⟩ (tX11_roomOn h) (kX11_roomOn l z D cA j0 j1 M _ h) rfl ⟨rfl, rfl⟩ ⟨Nat.le_of_ble_eq_true rfl, Nat.le_of_ble_eq_true rfl⟩ ⟨(Nat.le_of_ble_eq_true rfl), (Nat.le_of_ble_eq_true rfl)⟩ (Nat.le_of_ble_eq_true rfl) rfl dX11_makeEarlier_49 (x_pure (fun r4 h => ?_))
    refine x_iload_n E dX11_makeEarlier_52 rfl 2 rfl ?_
    refine x_icmp_lt (tgt := 60) E dX11_makeEarlier_53 (by decide) (fun c6 => ?_) (fun c6 => ?_)
    · replace h := xbr_t h c6
      clear c6
      refine x_iconst (v := (J 0)) E dX11_makeEarlier_60 (by decide) ?_
      refine x_sub (L' := [(0, .ref j0), (1, .int j1)]) [0, 1] rfl ?_
      exact hJ61 M j0 j1 (J 0) h
    · replace h := xbr_f h c6
      clear c6
      refine x_iconst (v := (J 1)) E dX11_makeEarlier_56 (by decide) ?_
      refine x_goto (tgt := 61) E dX11_makeEarlier_57 (by decide) ?_
      refine x_sub (L' := [(0, .ref j0), (1, .int j1)]) [0, 1] rfl ?_
      exact hJ61 M j0 j1 (J 1) h
  replace h := h.2
  refine lp_sound (T := fun sv => xG p l e ({ frames := 3, cells := 0, slots := 0, locals := 68 } : Room) s m args below meth c (MQ below (va_Qi K (xWd z D cA) (xA z)) args s 0 0 (xA z)) 5 z D cA sv (0) (0) 0 [(0, .ref a0), (1, .int x1), (2, .int x2)] []) ?_ M h
  clear h
  intro kc0 hk0 sv h
  obtain ⟨M, esv⟩ : ∃ y, y = sv := ⟨_, rfl⟩
  subst esv
  replace h : CX11_makeEarlier_0 K a0 x1 x2 kc0 M := h
  try dsimp only
  refine x_aload_n E dX11_makeEarlier_0 rfl 0 rfl ?_
  refine x_iload_n E dX11_makeEarlier_1 rfl 1 rfl ?_
  refine x_callVi (T := TX11) (N := 32) (t := 12) (As := [.int x1]) E mlX11_239 inX11_roomOn seX11_roomOn rfl ⟨by decide, by decide⟩ (tX11_roomOn h) (kX11_roomOn l z D cA a0 x1 M _ h) rfl ⟨rfl, rfl⟩ ⟨Nat.le_of_ble_eq_true rfl, Nat.le_of_ble_eq_true rfl⟩ ⟨(Nat.le_of_ble_eq_true rfl), (Nat.le_of_ble_eq_true rfl)⟩ (Nat.le_of_ble_eq_true rfl) rfl dX11_makeEarlier_2 (x_pure (fun r1 h => ?_))
  refine x_iload_n E dX11_makeEarlier_5 rfl 2 rfl ?_
  refine x_icmp_ge (tgt := 47) E dX11_makeEarlier_6 (by decide) (fun c3 => ?_) (fun c3 => ?_)
  · replace h := xbr_t h c3
    clear c3
    exact hJ47 M a0 x1 x2 h
  · replace h := xbr_f h c3
    clear c3
    refine x_aload_n E dX11_makeEarlier_9 rfl 0 rfl ?_
    obtain ⟨hT, q23, hv, h⟩ := h
    refine x_get E flX11_31 dX11_makeEarlier_10 hT hv ?_
    clear hT hv
    refine x_iload_n E dX11_makeEarlier_13 rfl 1 rfl ?_
    obtain ⟨hT, hi, v24, hv, h⟩ := h
    refine x_iald E dX11_makeEarlier_14 hT hi hv ?_
    clear hT hi hv
    refine x_if_le (tgt := 47) E dX11_makeEarlier_15 (by decide) (fun c25 => ?_) (fun c25 => ?_)
    · replace h := xbr_t h c25
      clear c25
      exact hJ47 M a0 x1 x2 h
    · replace h := xbr_f h c25
      clear c25
      refine x_iload_n E dX11_makeEarlier_18 rfl 1 rfl ?_
      refine x_if_le (tgt := 47) E dX11_makeEarlier_19 (by decide) (fun c26 => ?_) (fun c26 => ?_)
      · replace h := xbr_t h c26
        clear c26
        exact hJ47 M a0 x1 x2 h
      · replace h := xbr_f h c26
        clear c26
        refine x_aload_n E dX11_makeEarlier_22 rfl 0 rfl ?_
        obtain ⟨hT, q27, hv, h⟩ := h
        refine x_get E flX11_31 dX11_makeEarlier_23 hT hv ?_
        clear hT hv
        refine x_iload_n E dX11_makeEarlier_26 rfl 1 rfl ?_
        refine x_dup2 E dX11_makeEarlier_27 rfl rfl ?_
        obtain ⟨hT, hi, v28, hv, h⟩ := h
        refine x_iald E dX11_makeEarlier_28 hT hi hv ?_
        clear hT hi hv
        refine x_iconst (v := (J 1)) E dX11_makeEarlier_29 (by decide) ?_
        refine x_isub E dX11_makeEarlier_30 ?_
        obtain ⟨hT, hi, h⟩ := h
        refine x_iast E dX11_makeEarlier_31 hT hi (fun M29 eM29 => ?_)
        replace h := h M29 eM29
        clear hT hi eM29
        refine x_aload_n E dX11_makeEarlier_32 rfl 0 rfl ?_
        obtain ⟨hT, q30, hv, h⟩ := h
        refine x_get E flX11_31 dX11_makeEarlier_33 hT hv ?_
        clear hT hv
        refine x_iload_n E dX11_makeEarlier_36 rfl 1 rfl ?_
        refine x_iconst (v := (J 1)) E dX11_makeEarlier_37 (by decide) ?_
        refine x_isub E dX11_makeEarlier_38 ?_
        refine x_dup2 E dX11_makeEarlier_39 rfl rfl ?_
        obtain ⟨hT, hi, v31, hv, h⟩ := h
        refine x_iald E dX11_makeEarlier_40 hT hi hv ?_
        clear hT hi hv
        refine x_iconst (v := (J 1)) E dX11_makeEarlier_41 (by decide) ?_
        refine x_iadd E dX11_makeEarlier_42 ?_
        obtain ⟨hT, hi, h⟩ := h
        refine x_iast E dX11_makeEarlier_43 hT hi (fun M32 eM32 => ?_)
        replace h := h M32 eM32
        clear hT hi eM32
        refine x_goto (tgt := 0) E dX11_makeEarlier_44 (by decide) ?_
        exact hk0 M32 h
theorem dX11_make_0 : decode cX11_make 0 = .ok (.iload_n 1, 1) := by decide +kernel
theorem dX11_make_1 : decode cX11_make 1 = .ok (.invokestatic 234, 3) := by decide +kernel
theorem dX11_make_4 : decode cX11_make 4 = .ok (.ifCond .ne 7, 3) := by decide +kernel
theorem dX11_make_7 : decode cX11_make 7 = .ok (.sipush (-1001), 3) := by decide +kernel
theorem dX11_make_10 : decode cX11_make 10 = .ok (.ireturn, 1) := by decide +kernel
theorem dX11_make_11 : decode cX11_make 11 = .ok (.iload_n 2, 1) := by decide +kernel
theorem dX11_make_12 : decode cX11_make 12 = .ok (.i2l, 1) := by decide +kernel
theorem dX11_make_13 : decode cX11_make 13 = .ok (.lconst 1, 1) := by decide +kernel
theorem dX11_make_14 : decode cX11_make 14 = .ok (.ldc2_w 279, 3) := by decide +kernel
theorem dX11_make_17 : decode cX11_make 17 = .ok (.invokestatic 78, 3) := by decide +kernel
theorem dX11_make_20 : decode cX11_make 20 = .ok (.ifCond .ne 7, 3) := by decide +kernel
theorem dX11_make_23 : decode cX11_make 23 = .ok (.sipush (-1002), 3) := by decide +kernel
theorem dX11_make_26 : decode cX11_make 26 = .ok (.ireturn, 1) := by decide +kernel
theorem dX11_make_27 : decode cX11_make 27 = .ok (.aload_n 0, 1) := by decide +kernel
theorem dX11_make_28 : decode cX11_make 28 = .ok (.invokevirtual 258, 3) := by decide +kernel
theorem dX11_make_31 : decode cX11_make 31 = .ok (.aload_n 0, 1) := by decide +kernel
theorem dX11_make_32 : decode cX11_make 32 = .ok (.iload_n 1, 1) := by decide +kernel
theorem dX11_make_33 : decode cX11_make 33 = .ok (.iload_n 2, 1) := by decide +kernel
theorem dX11_make_34 : decode cX11_make 34 = .ok (.invokevirtual 284, 3) := by decide +kernel
theorem dX11_make_37 : decode cX11_make 37 = .ok (.ifCond .eq 10, 3) := by decide +kernel
theorem dX11_make_40 : decode cX11_make 40 = .ok (.aload_n 0, 1) := by decide +kernel
theorem dX11_make_41 : decode cX11_make 41 = .ok (.invokevirtual 281, 3) := by decide +kernel
theorem dX11_make_44 : decode cX11_make 44 = .ok (.goto 4, 3) := by decide +kernel
theorem dX11_make_47 : decode cX11_make 47 = .ok (.iconst (-1), 1) := by decide +kernel
theorem dX11_make_48 : decode cX11_make 48 = .ok (.istore 4, 2) := by decide +kernel
theorem dX11_make_50 : decode cX11_make 50 = .ok (.aload_n 0, 1) := by decide +kernel
theorem dX11_make_51 : decode cX11_make 51 = .ok (.invokevirtual 264, 3) := by decide +kernel
theorem dX11_make_54 : decode cX11_make 54 = .ok (.aload_n 0, 1) := by decide +kernel
theorem dX11_make_55 : decode cX11_make 55 = .ok (.iload_n 1, 1) := by decide +kernel
theorem dX11_make_56 : decode cX11_make 56 = .ok (.iload_n 2, 1) := by decide +kernel
theorem dX11_make_57 : decode cX11_make 57 = .ok (.invokevirtual 287, 3) := by decide +kernel
theorem dX11_make_60 : decode cX11_make 60 = .ok (.ifCond .eq 10, 3) := by decide +kernel
theorem dX11_make_63 : decode cX11_make 63 = .ok (.aload_n 0, 1) := by decide +kernel
theorem dX11_make_64 : decode cX11_make 64 = .ok (.invokevirtual 281, 3) := by decide +kernel
theorem dX11_make_67 : decode cX11_make 67 = .ok (.goto 4, 3) := by decide +kernel
theorem dX11_make_70 : decode cX11_make 70 = .ok (.iconst (-1), 1) := by decide +kernel
theorem dX11_make_71 : decode cX11_make 71 = .ok (.istore 5, 2) := by decide +kernel
theorem dX11_make_73 : decode cX11_make 73 = .ok (.aload_n 0, 1) := by decide +kernel
theorem dX11_make_74 : decode cX11_make 74 = .ok (.invokevirtual 264, 3) := by decide +kernel
theorem dX11_make_77 : decode cX11_make 77 = .ok (.iload 4, 2) := by decide +kernel
theorem dX11_make_79 : decode cX11_make 79 = .ok (.ifCond .ge 12, 3) := by decide +kernel
theorem dX11_make_82 : decode cX11_make 82 = .ok (.iload 5, 2) := by decide +kernel
theorem dX11_make_84 : decode cX11_make 84 = .ok (.ifCond .ge 7, 3) := by decide +kernel
theorem dX11_make_87 : decode cX11_make 87 = .ok (.sipush (-1003), 3) := by decide +kernel
theorem dX11_make_90 : decode cX11_make 90 = .ok (.ireturn, 1) := by decide +kernel
theorem dX11_make_91 : decode cX11_make 91 = .ok (.iload 4, 2) := by decide +kernel
theorem dX11_make_93 : decode cX11_make 93 = .ok (.ifCond .lt 19, 3) := by decide +kernel
theorem dX11_make_96 : decode cX11_make 96 = .ok (.iload 5, 2) := by decide +kernel
theorem dX11_make_98 : decode cX11_make 98 = .ok (.ifCond .lt 10, 3) := by decide +kernel
theorem dX11_make_101 : decode cX11_make 101 = .ok (.iload 4, 2) := by decide +kernel
theorem dX11_make_103 : decode cX11_make 103 = .ok (.iload 5, 2) := by decide +kernel
theorem dX11_make_105 : decode cX11_make 105 = .ok (.if_icmp .gt 7, 3) := by decide +kernel
theorem dX11_make_108 : decode cX11_make 108 = .ok (.iconst 1, 1) := by decide +kernel
theorem dX11_make_109 : decode cX11_make 109 = .ok (.goto 4, 3) := by decide +kernel
theorem dX11_make_112 : decode cX11_make 112 = .ok (.iconst 0, 1) := by decide +kernel
theorem dX11_make_113 : decode cX11_make 113 = .ok (.istore 6, 2) := by decide +kernel
theorem dX11_make_115 : decode cX11_make 115 = .ok (.iload_n 3, 1) := by decide +kernel
theorem dX11_make_116 : decode cX11_make 116 = .ok (.ifCond .eq 29, 3) := by decide +kernel
theorem dX11_make_119 : decode cX11_make 119 = .ok (.iload 6, 2) := by decide +kernel
theorem dX11_make_121 : decode cX11_make 121 = .ok (.ifCond .eq 15, 3) := by decide +kernel
theorem dX11_make_124 : decode cX11_make 124 = .ok (.aload_n 0, 1) := by decide +kernel
theorem dX11_make_125 : decode cX11_make 125 = .ok (.iload_n 1, 1) := by decide +kernel
theorem dX11_make_126 : decode cX11_make 126 = .ok (.iload_n 2, 1) := by decide +kernel
theorem dX11_make_127 : decode cX11_make 127 = .ok (.invokevirtual 284, 3) := by decide +kernel
theorem dX11_make_130 : decode cX11_make 130 = .ok (.ifCond .eq 19, 3) := by decide +kernel
theorem dX11_make_133 : decode cX11_make 133 = .ok (.goto 12, 3) := by decide +kernel
theorem dX11_make_136 : decode cX11_make 136 = .ok (.aload_n 0, 1) := by decide +kernel
theorem dX11_make_137 : decode cX11_make 137 = .ok (.iload_n 1, 1) := by decide +kernel
theorem dX11_make_138 : decode cX11_make 138 = .ok (.iload_n 2, 1) := by decide +kernel
theorem dX11_make_139 : decode cX11_make 139 = .ok (.invokevirtual 287, 3) := by decide +kernel
theorem dX11_make_142 : decode cX11_make 142 = .ok (.ifCond .eq 7, 3) := by decide +kernel
theorem dX11_make_145 : decode cX11_make 145 = .ok (.iconst 1, 1) := by decide +kernel
theorem dX11_make_146 : decode cX11_make 146 = .ok (.goto 4, 3) := by decide +kernel
theorem dX11_make_149 : decode cX11_make 149 = .ok (.iconst 0, 1) := by decide +kernel
theorem dX11_make_150 : decode cX11_make 150 = .ok (.istore 7, 2) := by decide +kernel
theorem dX11_make_152 : decode cX11_make 152 = .ok (.iload 7, 2) := by decide +kernel
theorem dX11_make_154 : decode cX11_make 154 = .ok (.ifCond .eq 18, 3) := by decide +kernel
theorem dX11_make_157 : decode cX11_make 157 = .ok (.iload 6, 2) := by decide +kernel
theorem dX11_make_159 : decode cX11_make 159 = .ok (.ifCond .eq 8, 3) := by decide +kernel
theorem dX11_make_162 : decode cX11_make 162 = .ok (.iload 4, 2) := by decide +kernel
theorem dX11_make_164 : decode cX11_make 164 = .ok (.goto 11, 3) := by decide +kernel
theorem dX11_make_167 : decode cX11_make 167 = .ok (.iload 5, 2) := by decide +kernel
theorem dX11_make_169 : decode cX11_make 169 = .ok (.goto 6, 3) := by decide +kernel
theorem dX11_make_172 : decode cX11_make 172 = .ok (.sipush (-1003), 3) := by decide +kernel
theorem dX11_make_175 : decode cX11_make 175 = .ok (.ireturn, 1) := by decide +kernel
set_option maxHeartbeats 4000000 in
set_option maxRecDepth 100000 in
theorem kX11_make (l : Launch) (z : Nat) (D : va_G) (cA : Nat → ClassId) (a0 : Nat) (x1 : Int32) (x2 : Int32) (x3 : Int32) (M : Mem) (K : Int32 → Mem → Prop) (h : PX11_make a0 x1 x2 x3 M K) : Met l yX11_make (.code yX11_make cX11_make 8 (some .int) :: gtbl) ({ frames := 5, cells := 0, slots := 0, locals := 112 } : Room) (va_Pc [.ref a0, .int x1, .int x2, .int x3] (xB z D cA M)) (va_Qi K (xWd z D cA) (xA z)) 0 0 (xA z) := by
  refine x_met (by decide +kernel) (Nat.le_of_ble_eq_true rfl) (L0 := [(0, .ref a0), (1, .int x1), (2, .int x2), (3, .int x3)]) rfl ?_
  intro p e s m args below meth c E hr hlk hnm
  have E : xE RX11 cX11_make 8 D cA p s m args c := E
  have hJ150 : ∀ (M : Mem) (j4 : Int32) (j5 : Int32) (j6 : Int32) (s0 : Int32), JX11_make_150 K M j4 j5 j6 s0 → xG p l e ({ frames := 5, cells := 0, slots := 0, locals := 112 } : Room) s m args below meth c (MQ below (va_Qi K (xWd z D cA) (xA z)) args s 0 0 (xA z)) 8 z D cA M (0) (0) 150 [(4, .int j4), (5, .int j5), (6, .int j6)] [.int s0] := by
    intro M j4 j5 j6 s0 h
    refine x_istore (L' := [(7, .int s0), (4, .int j4), (5, .int j5), (6, .int j6)]) E dX11_make_150 (by decide) rfl ?_
    refine x_iload E dX11_make_152 0 rfl ?_
    refine x_if_eq (tgt := 172) E dX11_make_154 (by decide) (fun c22 => ?_) (fun c22 => ?_)
    · replace h := xbr_t h c22
      clear c22
      refine x_sipush (v := (J (-1003))) E dX11_make_172 (by decide) ?_
      exact x_iret E hr hlk dX11_make_175 h
    · replace h := xbr_f h c22
      clear c22
      refine x_iload E dX11_make_157 3 rfl ?_
      refine x_if_eq (tgt := 167) E dX11_make_159 (by decide) (fun c23 => ?_) (fun c23 => ?_)
      · replace h := xbr_t h c23
        clear c23
        refine x_iload E dX11_make_167 2 rfl ?_
        refine x_goto (tgt := 175) E dX11_make_169 (by decide) ?_
        exact x_iret E hr hlk dX11_make_175 h
      · replace h := xbr_f h c23
        clear c23
        refine x_iload E dX11_make_162 1 rfl ?_
        refine x_goto (tgt := 175) E dX11_make_164 (by decide) ?_
        exact x_iret E hr hlk dX11_make_175 h
  have hJ145 : ∀ (M : Mem) (j4 : Int32) (j5 : Int32) (j6 : Int32), JX11_make_145 K M j4 j5 j6 → xG p l e ({ frames := 5, cells := 0, slots := 0, locals := 112 } : Room) s m args below meth c (MQ below (va_Qi K (xWd z D cA) (xA z)) args s 0 0 (xA z)) 8 z D cA M (0) (0) 145 [(4, .int j4), (5, .int j5), (6, .int j6)] [] := by
    intro M j4 j5 j6 h
    refine x_iconst (v := (J 1)) E dX11_make_145 (by decide) ?_
    refine x_goto (tgt := 150) E dX11_make_146 (by decide) ?_
    exact hJ150 M j4 j5 j6 (J 1) h
  have hJ149 : ∀ (M : Mem) (j4 : Int32) (j5 : Int32) (j6 : Int32), JX11_make_149 K M j4 j5 j6 → xG p l e ({ frames := 5, cells := 0, slots := 0, locals := 112 } : Room) s m args below meth c (MQ below (va_Qi K (xWd z D cA) (xA z)) args s 0 0 (xA z)) 8 z D cA M (0) (0) 149 [(4, .int j4), (5, .int j5), (6, .int j6)] [] := by
    intro M j4 j5 j6 h
    refine x_iconst (v := (J 0)) E dX11_make_149 (by decide) ?_
    exact hJ150 M j4 j5 j6 (J 0) h
  have hJ113 : ∀ (M : Mem) (j0 : Nat) (j1 : Int32) (j2 : Int32) (j3 : Int32) (j4 : Int32) (j5 : Int32) (s0 : Int32), JX11_make_113 K M j0 j1 j2 j3 j4 j5 s0 → xG p l e ({ frames := 5, cells := 0, slots := 0, locals := 112 } : Room) s m args below meth c (MQ below (va_Qi K (xWd z D cA) (xA z)) args s 0 0 (xA z)) 8 z D cA M (0) (0) 113 [(0, .ref j0), (1, .int j1), (2, .int j2), (3, .int j3), (4, .int j4), (5, .int j5)] [.int s0] := by
    intro M j0 j1 j2 j3 j4 j5 s0 h
    refine x_istore (L' := [(6, .int s0), (0, .ref j0), (1, .int j1), (2, .int j2), (3, .int j3), (4, .int j4), (5, .int j5)]) E dX11_make_113 (by decide) rfl ?_
    refine x_iload_n E dX11_make_115 rfl 4 rfl ?_
    refine x_if_eq (tgt := 145) E dX11_make_116 (by decide) (fun c21 => ?_) (fun c21 => ?_)
    · replace h := xbr_t h c21
      clear c21
      refine x_sub (L' := [(4, .int j4), (5, .int j5), (6, .int s0)]) [5, 6, 0] rfl ?_
      exact hJ145 M j4 j5 s0 h
    · replace h := xbr_f h c21
      clear c21
      refine x_iload E dX11_make_119 0 rfl ?_
      refine x_if_eq (tgt := 136) E dX11_make_121 (by decide) (fun c24 => ?_) (fun c24 => ?_)
      · replace h := xbr_t h c24
        clear c24
        refine x_aload_n E dX11_make_136 rfl 1 rfl ?_
        refine x_iload_n E dX11_make_137 rfl 2 rfl ?_
        refine x_iload_n E dX11_make_138 rfl 3 rfl ?_
        refine x_callVi (T := TX11) (N := 32) (t := 12) (As := [.int j1, .int j2]) E mlX11_287 inX11_makeEarlier seX11_makeEarlier rfl ⟨by decide, by decide⟩ (tX11_makeEarlier h) (kX11_makeEarlier l z D cA j0 j1 j2 M _ h) rfl ⟨rfl, rfl⟩ ⟨Nat.le_of_ble_eq_true rfl, Nat.le_of_ble_eq_true rfl⟩ ⟨(Nat.le_of_ble_eq_true rfl), (Nat.le_of_ble_eq_true rfl)⟩ (Nat.le_of_ble_eq_true rfl) rfl dX11_make_139 (fun r25 M26 h => ?_)
        refine x_if_eq (tgt := 149) E dX11_make_142 (by decide) (fun c27 => ?_) (fun c27 => ?_)
        · replace h := xbr_t h c27
          clear c27
          refine x_sub (L' := [(4, .int j4), (5, .int j5), (6, .int s0)]) [5, 6, 0] rfl ?_
          exact hJ149 M26 j4 j5 s0 h
        · replace h := xbr_f h c27
          clear c27
          refine x_sub (L' := [(4, .int j4), (5, .int j5), (6, .int s0)]) [5, 6, 0] rfl ?_
          exact hJ145 M26 j4 j5 s0 h
      · replace h := xbr_f h c24
        clear c24
        refine x_aload_n E dX11_make_124 rfl 1 rfl ?_
        refine x_iload_n E dX11_make_125 rfl 2 rfl ?_
        refine x_iload_n E dX11_make_126 rfl 3 rfl ?_
        refine x_callVi (T := TX11) (N := 32) (t := 12) (As := [.int j1, .int j2]) E mlX11_284 inX11_makeLater seX11_makeLater rfl ⟨by decide, by decide⟩ (tX11_makeLater h) (kX11_makeLater l z D cA j0 j1 j2 M _ h) rfl ⟨rfl, rfl⟩ ⟨Nat.le_of_ble_eq_true rfl, Nat.le_of_ble_eq_true rfl⟩ ⟨(Nat.le_of_ble_eq_true rfl), (Nat.le_of_ble_eq_true rfl)⟩ (Nat.le_of_ble_eq_true rfl) rfl dX11_make_127 (fun r28 M29 h => ?_)
        refine x_if_eq (tgt := 149) E dX11_make_130 (by decide) (fun c30 => ?_) (fun c30 => ?_)
        · replace h := xbr_t h c30
          clear c30
          refine x_sub (L' := [(4, .int j4), (5, .int j5), (6, .int s0)]) [5, 6, 0] rfl ?_
          exact hJ149 M29 j4 j5 s0 h
        · replace h := xbr_f h c30
          clear c30
          refine x_goto (tgt := 145) E dX11_make_133 (by decide) ?_
          refine x_sub (L' := [(4, .int j4), (5, .int j5), (6, .int s0)]) [5, 6, 0] rfl ?_
          exact hJ145 M29 j4 j5 s0 h
  have hJ112 : ∀ (M : Mem) (j0 : Nat) (j1 : Int32) (j2 : Int32) (j3 : Int32) (j4 : Int32) (j5 : Int32), JX11_make_112 K M j0 j1 j2 j3 j4 j5 → xG p l e ({ frames := 5, cells := 0, slots := 0, locals := 112 } : Room) s m args below meth c (MQ below (va_Qi K (xWd z D cA) (xA z)) args s 0 0 (xA z)) 8 z D cA M (0) (0) 112 [(0, .ref j0), (1, .int j1), (2, .int j2), (3, .int j3), (4, .int j4), (5, .int j5)] [] := by
    intro M j0 j1 j2 j3 j4 j5 h
    refine x_iconst (v := (J 0)) E dX11_make_112 (by decide) ?_
    exact hJ113 M j0 j1 j2 j3 j4 j5 (J 0) h
  have hJ108 : ∀ (M : Mem) (j0 : Nat) (j1 : Int32) (j2 : Int32) (j3 : Int32) (j4 : Int32) (j5 : Int32), JX11_make_108 K M j0 j1 j2 j3 j4 j5 → xG p l e ({ frames := 5, cells := 0, slots := 0, locals := 112 } : Room) s m args below meth c (MQ below (va_Qi K (xWd z D cA) (xA z)) args s 0 0 (xA z)) 8 z D cA M (0) (0) 108 [(0, .ref j0), (1, .int j1), (2, .int j2), (3, .int j3), (4, .int j4), (5, .int j5)] [] := by
    intro M j0 j1 j2 j3 j4 j5 h
    refine x_iconst (v := (J 1)) E dX11_make_108 (by decide) ?_
    refine x_goto (tgt := 113) E dX11_make_109 (by decide) ?_
    exact hJ113 M j0 j1 j2 j3 j4 j5 (J 1) h
  have hJ91 : ∀ (M : Mem) (j0 : Nat) (j1 : Int32) (j2 : Int32) (j3 : Int32) (j4 : Int32) (j5 : Int32), JX11_make_91 K M j0 j1 j2 j3 j4 j5 → xG p l e ({ frames := 5, cells := 0, slots := 0, locals := 112 } : Room) s m args below meth c (MQ below (va_Qi K (xWd z D cA) (xA z)) args s 0 0 (xA z)) 8 z D cA M (0) (0) 91 [(0, .ref j0), (1, .int j1), (2, .int j2), (3, .int j3), (4, .int j4), (5, .int j5)] [] := by
    intro M j0 j1 j2 j3 j4 j5 h
    refine x_iload E dX11_make_91 4 rfl ?_
    refine x_if_lt (tgt := 112) E dX11_make_93 (by decide) (fun c20 => ?_) (fun c20 => ?_)
    · replace h := xbr_t h c20
      clear c20
      exact hJ112 M j0 j1 j2 j3 j4 j5 h
    · replace h := xbr_f h c20
      clear c20
      refine x_iload E dX11_make_96 5 rfl ?_
      refine x_if_lt (tgt := 108) E dX11_make_98 (by decide) (fun c31 => ?_) (fun c31 => ?_)
      · replace h := xbr_t h c31
        clear c31
        exact hJ108 M j0 j1 j2 j3 j4 j5 h
      · replace h := xbr_f h c31
        clear c31
        refine x_iload E dX11_make_101 4 rfl ?_
        refine x_iload E dX11_make_103 5 rfl ?_
        refine x_icmp_gt (tgt := 112) E dX11_make_105 (by decide) (fun c32 => ?_) (fun c32 => ?_)
        · replace h := xbr_t h c32
          clear c32
          exact hJ112 M j0 j1 j2 j3 j4 j5 h
        · replace h := xbr_f h c32
          clear c32
          exact hJ108 M j0 j1 j2 j3 j4 j5 h
  have hJ71 : ∀ (M : Mem) (j0 : Nat) (j1 : Int32) (j2 : Int32) (j3 : Int32) (j4 : Int32) (s0 : Int32), JX11_make_71 K M j0 j1 j2 j3 j4 s0 → xG p l e ({ frames := 5, cells := 0, slots := 0, locals := 112 } : Room) s m args below meth c (MQ below (va_Qi K (xWd z D cA) (xA z)) args s 0 0 (xA z)) 8 z D cA M (0) (0) 71 [(0, .ref j0), (1, .int j1), (2, .int j2), (3, .int j3), (4, .int j4)] [.int s0] := by
    intro M j0 j1 j2 j3 j4 s0 h
    refine x_istore (L' := [(5, .int s0), (0, .ref j0), (1, .int j1), (2, .int j2), (3, .int j3), (4, .int j4)]) E dX11_make_71 (by decide) rfl ?_
    refine x_aload_n E dX11_make_73 rfl 1 rfl ?_
    refine x_callVv (T := TX11) (N := 32) (t := 12) (As := []) E mlX11_264 inX11_back seX11_back rfl ⟨by decide, by decide⟩ (tX11_back h) (kX11_back l z D cA j0 M _ h) rfl ⟨rfl, rfl⟩ ⟨Nat.le_of_ble_eq_true rfl, Nat.le_of_ble_eq_true rfl⟩ ⟨(Nat.le_of_ble_eq_true rfl), (Nat.le_of_ble_eq_true rfl)⟩ (Nat.le_of_ble_eq_true rfl) rfl dX11_make_74 (fun M18 h => ?_)
    refine x_iload E dX11_make_77 5 rfl ?_
    refine x_if_ge (tgt := 91) E dX11_make_79 (by decide) (fun c19 => ?_) (fun c19 => ?_)
    · replace h := xbr_t h c19
      clear c19
      refine x_sub (L' := [(0, .ref j0), (1, .int j1), (2, .int j2), (3, .int j3), (4, .int j4), (5, .int s0)]) [1, 2, 3, 4, 5, 0] rfl ?_
      exact hJ91 M18 j0 j1 j2 j3 j4 s0 h
    · replace h := xbr_f h c19
      clear c19
      refine x_iload E dX11_make_82 0 rfl ?_
      refine x_if_ge (tgt := 91) E dX11_make_84 (by decide) (fun c33 => ?_) (fun c33 => ?_)
      · replace h := xbr_t h c33
        clear c33
        refine x_sub (L' := [(0, .ref j0), (1, .int j1), (2, .int j2), (3, .int j3), (4, .int j4), (5, .int s0)]) [1, 2, 3, 4, 5, 0] rfl ?_
        exact hJ91 M18 j0 j1 j2 j3 j4 s0 h
      · replace h := xbr_f h c33
        clear c33
        refine x_sipush (v := (J (-1003))) E dX11_make_87 (by decide) ?_
        exact x_iret E hr hlk dX11_make_90 h
  have hJ48 : ∀ (M : Mem) (j0 : Nat) (j1 : Int32) (j2 : Int32) (j3 : Int32) (s0 : Int32), JX11_make_48 K M j0 j1 j2 j3 s0 → xG p l e ({ frames := 5, cells := 0, slots := 0, locals := 112 } : Room) s m args below meth c (MQ below (va_Qi K (xWd z D cA) (xA z)) args s 0 0 (xA z)) 8 z D cA M (0) (0) 48 [(0, .ref j0), (1, .int j1), (2, .int j2), (3, .int j3)] [.int s0] := by
    intro M j0 j1 j2 j3 s0 h
    refine x_istore (L' := [(4, .int s0), (0, .ref j0), (1, .int j1), (2, .int j2), (3, .int j3)]) E dX11_make_48 (by decide) rfl ?_
    refine x_aload_n E dX11_make_50 rfl 1 rfl ?_
    refine x_callVv (T := TX11) (N := 32) (t := 12) (As := []) E mlX11_264 inX11_back seX11_back rfl ⟨by decide, by decide⟩ (tX11_back h) (kX11_back l z D cA j0 M _ h) rfl ⟨rfl, rfl⟩ ⟨Nat.le_of_ble_eq_true rfl, Nat.le_of_ble_eq_true rfl⟩ ⟨(Nat.le_of_ble_eq_true rfl), (Nat.le_of_ble_eq_true rfl)⟩ (Nat.le_of_ble_eq_true rfl) rfl dX11_make_51 (fun M13 h => ?_)
    refine x_aload_n E dX11_make_54 rfl 1 rfl ?_
    refine x_iload_n E dX11_make_55 rfl 2 rfl ?_
    refine x_iload_n E dX11_make_56 rfl 3 rfl ?_
    refine x_callVi (T := TX11) (N := 32) (t := 12) (As := [.int j1, .int j2]) E mlX11_287 inX11_makeEarlier seX11_makeEarlier rfl ⟨by decide, by decide⟩ (tX11_makeEarlier h) (kX11_makeEarlier l z D cA j0 j1 j2 M13 _ h) rfl ⟨rfl, rfl⟩ ⟨Nat.le_of_ble_eq_true rfl, Nat.le_of_ble_eq_true rfl⟩ ⟨(Nat.le_of_ble_eq_true rfl), (Nat.le_of_ble_eq_true rfl)⟩ (Nat.le_of_ble_eq_true rfl) rfl dX11_make_57 (fun r14 M15 h => ?_)
    refine x_if_eq (tgt := 70) E dX11_make_60 (by decide) (fun c16 => ?_) (fun c16 => ?_)
    · replace h := xbr_t h c16
      clear c16
      refine x_iconst (v := (J (-1))) E dX11_make_70 (by decide) ?_
      refine x_sub (L' := [(0, .ref j0), (1, .int j1), (2, .int j2), (3, .int j3), (4, .int s0)]) [1, 2, 3, 4, 0] rfl ?_
      exact hJ71 M15 j0 j1 j2 j3 s0 (J (-1)) h
    · replace h := xbr_f h c16
      clear c16
      refine x_aload_n E dX11_make_63 rfl 1 rfl ?_
      refine x_callVi (T := TX11) (N := 32) (t := 12) (As := []) E mlX11_281 inX11_carried seX11_carried rfl ⟨by decide, by decide⟩ (tX11_carried h) (kX11_carried l z D cA j0 M15 _ h) rfl ⟨rfl, rfl⟩ ⟨Nat.le_of_ble_eq_true rfl, Nat.le_of_ble_eq_true rfl⟩ ⟨(Nat.le_of_ble_eq_true rfl), (Nat.le_of_ble_eq_true rfl)⟩ (Nat.le_of_ble_eq_true rfl) rfl dX11_make_64 (x_pure (fun r34 h => ?_))
      refine x_goto (tgt := 71) E dX11_make_67 (by decide) ?_
      refine x_sub (L' := [(0, .ref j0), (1, .int j1), (2, .int j2), (3, .int j3), (4, .int s0)]) [1, 2, 3, 4, 0] rfl ?_
      exact hJ71 M15 j0 j1 j2 j3 s0 r34 h
  replace h := h.2
  refine x_iload_n E dX11_make_0 rfl 1 rfl ?_
  refine x_callSi (As := [.int x1]) E mlX11_234 rfl stX11_isShelf (kX11_isShelf l z D cA x1 M _ h) rfl ⟨rfl, rfl⟩ ⟨Nat.le_of_ble_eq_true rfl, Nat.le_of_ble_eq_true rfl⟩ ⟨(Nat.le_of_ble_eq_true rfl), (Nat.le_of_ble_eq_true rfl)⟩ (Nat.le_of_ble_eq_true rfl) rfl dX11_make_1 (x_pure (fun r1 h => ?_))
  refine x_if_ne (tgt := 11) E dX11_make_4 (by decide) (fun c3 => ?_) (fun c3 => ?_)
  · replace h := xbr_f h c3
    clear c3
    refine x_iload_n E dX11_make_11 rfl 2 rfl ?_
    refine x_i2l E dX11_make_12 ?_
    refine x_lconst (v := (LJ 1)) E dX11_make_13 (by decide) ?_
    refine x_ldc2 (v := (LJ 30)) E (gw 1229 (by decide +kernel) rfl) dX11_make_14 ?_
    refine x_callSi (As := [.long x2.toInt64, .long (LJ 1), .long (LJ 30)]) E mlX11_78 rfl stX11_in (kX11_in l z D cA x2.toInt64 (LJ 1) (LJ 30) M _ h) rfl ⟨rfl, rfl⟩ ⟨Nat.le_of_ble_eq_true rfl, Nat.le_of_ble_eq_true rfl⟩ ⟨(Nat.le_of_ble_eq_true rfl), (Nat.le_of_ble_eq_true rfl)⟩ (Nat.le_of_ble_eq_true rfl) rfl dX11_make_17 (x_pure (fun r4 h => ?_))
    refine x_if_ne (tgt := 27) E dX11_make_20 (by decide) (fun c6 => ?_) (fun c6 => ?_)
    · replace h := xbr_f h c6
      clear c6
      refine x_aload_n E dX11_make_27 rfl 0 rfl ?_
      refine x_callVv (T := TX11) (N := 32) (t := 12) (As := []) E mlX11_258 inX11_save seX11_save rfl ⟨by decide, by decide⟩ (tX11_save h) (kX11_save l z D cA a0 M _ h) rfl ⟨rfl, rfl⟩ ⟨Nat.le_of_ble_eq_true rfl, Nat.le_of_ble_eq_true rfl⟩ ⟨(Nat.le_of_ble_eq_true rfl), (Nat.le_of_ble_eq_true rfl)⟩ (Nat.le_of_ble_eq_true rfl) rfl dX11_make_28 (fun M8 h => ?_)
      refine x_aload_n E dX11_make_31 rfl 0 rfl ?_
      refine x_iload_n E dX11_make_32 rfl 1 rfl ?_
      refine x_iload_n E dX11_make_33 rfl 2 rfl ?_
      refine x_callVi (T := TX11) (N := 32) (t := 12) (As := [.int x1, .int x2]) E mlX11_284 inX11_makeLater seX11_makeLater rfl ⟨by decide, by decide⟩ (tX11_makeLater h) (kX11_makeLater l z D cA a0 x1 x2 M8 _ h) rfl ⟨rfl, rfl⟩ ⟨Nat.le_of_ble_eq_true rfl, Nat.le_of_ble_eq_true rfl⟩ ⟨(Nat.le_of_ble_eq_true rfl), (Nat.le_of_ble_eq_true rfl)⟩ (Nat.le_of_ble_eq_true rfl) rfl dX11_make_34 (fun r9 M10 h => ?_)
      refine x_if_eq (tgt := 47) E dX11_make_37 (by decide) (fun c11 => ?_) (fun c11 => ?_)
      · replace h := xbr_t h c11
        clear c11
        refine x_iconst (v := (J (-1))) E dX11_make_47 (by decide) ?_
        exact hJ48 M10 a0 x1 x2 x3 (J (-1)) h
      · replace h := xbr_f h c11
        clear c11
        refine x_aload_n E dX11_make_40 rfl 0 rfl ?_
        refine x_callVi (T := TX11) (N := 32) (t := 12) (As := []) E mlX11_281 inX11_carried seX11_carried rfl ⟨by decide, by decide⟩ (tX11_carried h) (kX11_carried l z D cA a0 M10 _ h) rfl ⟨rfl, rfl⟩ ⟨Nat.le_of_ble_eq_true rfl, Nat.le_of_ble_eq_true rfl⟩ ⟨(Nat.le_of_ble_eq_true rfl), (Nat.le_of_ble_eq_true rfl)⟩ (Nat.le_of_ble_eq_true rfl) rfl dX11_make_41 (x_pure (fun r36 h => ?_))
        refine x_goto (tgt := 48) E dX11_make_44 (by decide) ?_
        exact hJ48 M10 a0 x1 x2 x3 r36 h
    · replace h := xbr_t h c6
      clear c6
      refine x_sipush (v := (J (-1002))) E dX11_make_23 (by decide) ?_
      exact x_iret E hr hlk dX11_make_26 h
  · replace h := xbr_t h c3
    clear c3
    refine x_sipush (v := (J (-1001))) E dX11_make_7 (by decide) ?_
    exact x_iret E hr hlk dX11_make_10 h
theorem dX11_findGuide_0 : decode cX11_findGuide 0 = .ok (.aload_n 0, 1) := by decide +kernel
theorem dX11_findGuide_1 : decode cX11_findGuide 1 = .ok (.getfield 31, 3) := by decide +kernel
theorem dX11_findGuide_4 : decode cX11_findGuide 4 = .ok (.iload_n 1, 1) := by decide +kernel
theorem dX11_findGuide_5 : decode cX11_findGuide 5 = .ok (.iaload, 1) := by decide +kernel
theorem dX11_findGuide_6 : decode cX11_findGuide 6 = .ok (.ifCond .ne 5, 3) := by decide +kernel
theorem dX11_findGuide_9 : decode cX11_findGuide 9 = .ok (.iconst 0, 1) := by decide +kernel
theorem dX11_findGuide_10 : decode cX11_findGuide 10 = .ok (.ireturn, 1) := by decide +kernel
theorem dX11_findGuide_11 : decode cX11_findGuide 11 = .ok (.aload_n 0, 1) := by decide +kernel
theorem dX11_findGuide_12 : decode cX11_findGuide 12 = .ok (.aload_n 0, 1) := by decide +kernel
theorem dX11_findGuide_13 : decode cX11_findGuide 13 = .ok (.getfield 28, 3) := by decide +kernel
theorem dX11_findGuide_16 : decode cX11_findGuide 16 = .ok (.aload_n 0, 1) := by decide +kernel
theorem dX11_findGuide_17 : decode cX11_findGuide 17 = .ok (.iload_n 1, 1) := by decide +kernel
theorem dX11_findGuide_18 : decode cX11_findGuide 18 = .ok (.invokevirtual 177, 3) := by decide +kernel
theorem dX11_findGuide_21 : decode cX11_findGuide 21 = .ok (.iaload, 1) := by decide +kernel
theorem dX11_findGuide_22 : decode cX11_findGuide 22 = .ok (.invokevirtual 191, 3) := by decide +kernel
theorem dX11_findGuide_25 : decode cX11_findGuide 25 = .ok (.aload_n 0, 1) := by decide +kernel
theorem dX11_findGuide_26 : decode cX11_findGuide 26 = .ok (.getfield 180, 3) := by decide +kernel
theorem dX11_findGuide_29 : decode cX11_findGuide 29 = .ok (.istore_n 2, 1) := by decide +kernel
theorem dX11_findGuide_30 : decode cX11_findGuide 30 = .ok (.iconst 0, 1) := by decide +kernel
theorem dX11_findGuide_31 : decode cX11_findGuide 31 = .ok (.istore_n 3, 1) := by decide +kernel
theorem dX11_findGuide_32 : decode cX11_findGuide 32 = .ok (.iload_n 3, 1) := by decide +kernel
theorem dX11_findGuide_33 : decode cX11_findGuide 33 = .ok (.iload_n 2, 1) := by decide +kernel
theorem dX11_findGuide_34 : decode cX11_findGuide 34 = .ok (.if_icmp .ge 21, 3) := by decide +kernel
theorem dX11_findGuide_37 : decode cX11_findGuide 37 = .ok (.aload_n 0, 1) := by decide +kernel
theorem dX11_findGuide_38 : decode cX11_findGuide 38 = .ok (.getfield 56, 3) := by decide +kernel
theorem dX11_findGuide_41 : decode cX11_findGuide 41 = .ok (.iload_n 3, 1) := by decide +kernel
theorem dX11_findGuide_42 : decode cX11_findGuide 42 = .ok (.aload_n 0, 1) := by decide +kernel
theorem dX11_findGuide_43 : decode cX11_findGuide 43 = .ok (.getfield 44, 3) := by decide +kernel
theorem dX11_findGuide_46 : decode cX11_findGuide 46 = .ok (.iload_n 3, 1) := by decide +kernel
theorem dX11_findGuide_47 : decode cX11_findGuide 47 = .ok (.iaload, 1) := by decide +kernel
theorem dX11_findGuide_48 : decode cX11_findGuide 48 = .ok (.iastore, 1) := by decide +kernel
theorem dX11_findGuide_49 : decode cX11_findGuide 49 = .ok (.iinc 3 1, 3) := by decide +kernel
theorem dX11_findGuide_52 : decode cX11_findGuide 52 = .ok (.goto (-20), 3) := by decide +kernel
theorem dX11_findGuide_55 : decode cX11_findGuide 55 = .ok (.iconst 1, 1) := by decide +kernel
theorem dX11_findGuide_56 : decode cX11_findGuide 56 = .ok (.istore_n 3, 1) := by decide +kernel
theorem dX11_findGuide_57 : decode cX11_findGuide 57 = .ok (.iconst 0, 1) := by decide +kernel
theorem dX11_findGuide_58 : decode cX11_findGuide 58 = .ok (.istore 4, 2) := by decide +kernel
theorem dX11_findGuide_60 : decode cX11_findGuide 60 = .ok (.iload 4, 2) := by decide +kernel
theorem dX11_findGuide_62 : decode cX11_findGuide 62 = .ok (.aload_n 0, 1) := by decide +kernel
theorem dX11_findGuide_63 : decode cX11_findGuide 63 = .ok (.iload_n 1, 1) := by decide +kernel
theorem dX11_findGuide_64 : decode cX11_findGuide 64 = .ok (.invokevirtual 177, 3) := by decide +kernel
theorem dX11_findGuide_67 : decode cX11_findGuide 67 = .ok (.if_icmp .ge 78, 3) := by decide +kernel
theorem dX11_findGuide_70 : decode cX11_findGuide 70 = .ok (.aload_n 0, 1) := by decide +kernel
theorem dX11_findGuide_71 : decode cX11_findGuide 71 = .ok (.aload_n 0, 1) := by decide +kernel
theorem dX11_findGuide_72 : decode cX11_findGuide 72 = .ok (.getfield 28, 3) := by decide +kernel
theorem dX11_findGuide_75 : decode cX11_findGuide 75 = .ok (.iload 4, 2) := by decide +kernel
theorem dX11_findGuide_77 : decode cX11_findGuide 77 = .ok (.iaload, 1) := by decide +kernel
theorem dX11_findGuide_78 : decode cX11_findGuide 78 = .ok (.invokevirtual 191, 3) := by decide +kernel
theorem dX11_findGuide_81 : decode cX11_findGuide 81 = .ok (.iconst 0, 1) := by decide +kernel
theorem dX11_findGuide_82 : decode cX11_findGuide 82 = .ok (.istore 5, 2) := by decide +kernel
theorem dX11_findGuide_84 : decode cX11_findGuide 84 = .ok (.iload 5, 2) := by decide +kernel
theorem dX11_findGuide_86 : decode cX11_findGuide 86 = .ok (.iload_n 2, 1) := by decide +kernel
theorem dX11_findGuide_87 : decode cX11_findGuide 87 = .ok (.if_icmp .ge 35, 3) := by decide +kernel
theorem dX11_findGuide_90 : decode cX11_findGuide 90 = .ok (.iload 5, 2) := by decide +kernel
theorem dX11_findGuide_92 : decode cX11_findGuide 92 = .ok (.aload_n 0, 1) := by decide +kernel
theorem dX11_findGuide_93 : decode cX11_findGuide 93 = .ok (.getfield 180, 3) := by decide +kernel
theorem dX11_findGuide_96 : decode cX11_findGuide 96 = .ok (.if_icmp .ge 26, 3) := by decide +kernel
theorem dX11_findGuide_99 : decode cX11_findGuide 99 = .ok (.aload_n 0, 1) := by decide +kernel
theorem dX11_findGuide_100 : decode cX11_findGuide 100 = .ok (.getfield 44, 3) := by decide +kernel
theorem dX11_findGuide_103 : decode cX11_findGuide 103 = .ok (.iload 5, 2) := by decide +kernel
theorem dX11_findGuide_105 : decode cX11_findGuide 105 = .ok (.iaload, 1) := by decide +kernel
theorem dX11_findGuide_106 : decode cX11_findGuide 106 = .ok (.aload_n 0, 1) := by decide +kernel
theorem dX11_findGuide_107 : decode cX11_findGuide 107 = .ok (.getfield 56, 3) := by decide +kernel
theorem dX11_findGuide_110 : decode cX11_findGuide 110 = .ok (.iload 5, 2) := by decide +kernel
theorem dX11_findGuide_112 : decode cX11_findGuide 112 = .ok (.iaload, 1) := by decide +kernel
theorem dX11_findGuide_113 : decode cX11_findGuide 113 = .ok (.if_icmp .ne 9, 3) := by decide +kernel
theorem dX11_findGuide_116 : decode cX11_findGuide 116 = .ok (.iinc 5 1, 3) := by decide +kernel
theorem dX11_findGuide_119 : decode cX11_findGuide 119 = .ok (.goto (-35), 3) := by decide +kernel
theorem dX11_findGuide_122 : decode cX11_findGuide 122 = .ok (.iload 5, 2) := by decide +kernel
theorem dX11_findGuide_124 : decode cX11_findGuide 124 = .ok (.iconst 1, 1) := by decide +kernel
theorem dX11_findGuide_125 : decode cX11_findGuide 125 = .ok (.iadd, 1) := by decide +kernel
theorem dX11_findGuide_126 : decode cX11_findGuide 126 = .ok (.iload_n 3, 1) := by decide +kernel
theorem dX11_findGuide_127 : decode cX11_findGuide 127 = .ok (.if_icmp .le 10, 3) := by decide +kernel
theorem dX11_findGuide_130 : decode cX11_findGuide 130 = .ok (.iload 5, 2) := by decide +kernel
theorem dX11_findGuide_132 : decode cX11_findGuide 132 = .ok (.iconst 1, 1) := by decide +kernel
theorem dX11_findGuide_133 : decode cX11_findGuide 133 = .ok (.iadd, 1) := by decide +kernel
theorem dX11_findGuide_134 : decode cX11_findGuide 134 = .ok (.goto 4, 3) := by decide +kernel
theorem dX11_findGuide_137 : decode cX11_findGuide 137 = .ok (.iload_n 3, 1) := by decide +kernel
theorem dX11_findGuide_138 : decode cX11_findGuide 138 = .ok (.istore_n 3, 1) := by decide +kernel
theorem dX11_findGuide_139 : decode cX11_findGuide 139 = .ok (.iinc 4 1, 3) := by decide +kernel
theorem dX11_findGuide_142 : decode cX11_findGuide 142 = .ok (.goto (-82), 3) := by decide +kernel
theorem dX11_findGuide_145 : decode cX11_findGuide 145 = .ok (.iload_n 3, 1) := by decide +kernel
theorem dX11_findGuide_146 : decode cX11_findGuide 146 = .ok (.iload_n 2, 1) := by decide +kernel
theorem dX11_findGuide_147 : decode cX11_findGuide 147 = .ok (.if_icmp .le 7, 3) := by decide +kernel
theorem dX11_findGuide_150 : decode cX11_findGuide 150 = .ok (.iload_n 2, 1) := by decide +kernel
theorem dX11_findGuide_151 : decode cX11_findGuide 151 = .ok (.goto 4, 3) := by decide +kernel
theorem dX11_findGuide_154 : decode cX11_findGuide 154 = .ok (.iload_n 3, 1) := by decide +kernel
theorem dX11_findGuide_155 : decode cX11_findGuide 155 = .ok (.ireturn, 1) := by decide +kernel
set_option maxHeartbeats 4000000 in
set_option maxRecDepth 100000 in
theorem kX11_findGuide (l : Launch) (z : Nat) (D : va_G) (cA : Nat → ClassId) (a0 : Nat) (x1 : Int32) (M : Mem) (K : Int32 → Mem → Prop) (h : PX11_findGuide a0 x1 M K) : Met l yX11_findGuide (.code yX11_findGuide cX11_findGuide 6 (some .int) :: gtbl) ({ frames := 3, cells := 0, slots := 0, locals := 66 } : Room) (va_Pc [.ref a0, .int x1] (xB z D cA M)) (va_Qi K (xWd z D cA) (xA z)) 0 0 (xA z) := by
  refine x_met (by decide +kernel) (Nat.le_of_ble_eq_true rfl) (L0 := [(0, .ref a0), (1, .int x1)]) rfl ?_
  intro p e s m args below meth c E hr hlk hnm
  have E : xE RX11 cX11_findGuide 6 D cA p s m args c := E
  replace h := h.2
  refine x_aload_n E dX11_findGuide_0 rfl 0 rfl ?_
  obtain ⟨hT, q1, hv, h⟩ := h
  refine x_get E flX11_31 dX11_findGuide_1 hT hv ?_
  clear hT hv
  refine x_iload_n E dX11_findGuide_4 rfl 1 rfl ?_
  obtain ⟨hT, hi, v2, hv, h⟩ := h
  refine x_iald E dX11_findGuide_5 hT hi hv ?_
  clear hT hi hv
  refine x_if_ne (tgt := 11) E dX11_findGuide_6 (by decide) (fun c3 => ?_) (fun c3 => ?_)
  · replace h := xbr_f h c3
    clear c3
    refine x_aload_n E dX11_findGuide_11 rfl 0 rfl ?_
    refine x_aload_n E dX11_findGuide_12 rfl 0 rfl ?_
    obtain ⟨hT, q4, hv, h⟩ := h
    refine x_get E flX11_28 dX11_findGuide_13 hT hv ?_
    clear hT hv
    refine x_aload_n E dX11_findGuide_16 rfl 0 rfl ?_
    refine x_iload_n E dX11_findGuide_17 rfl 1 rfl ?_
    refine x_callVi (T := TX11) (N := 32) (t := 12) (As := [.int x1]) E mlX11_177 inX11_firstOf seX11_firstOf rfl ⟨by decide, by decide⟩ (tX11_firstOf h) (kX11_firstOf l z D cA a0 x1 M _ h) rfl ⟨rfl, rfl⟩ ⟨Nat.le_of_ble_eq_true rfl, Nat.le_of_ble_eq_true rfl⟩ ⟨(Nat.le_of_ble_eq_true rfl), (Nat.le_of_ble_eq_true rfl)⟩ (Nat.le_of_ble_eq_true rfl) rfl dX11_findGuide_18 (x_pure (fun r5 h => ?_))
    obtain ⟨hT, hi, v7, hv, h⟩ := h
    refine x_iald E dX11_findGuide_21 hT hi hv ?_
    clear hT hi hv
    refine x_callVv (T := TX11) (N := 32) (t := 12) (As := [.int v7]) E mlX11_191 inX11_writeMark seX11_writeMark rfl ⟨by decide, by decide⟩ (tX11_writeMark h) (kX11_writeMark l z D cA a0 v7 M _ h) rfl ⟨rfl, rfl⟩ ⟨Nat.le_of_ble_eq_true rfl, Nat.le_of_ble_eq_true rfl⟩ ⟨(Nat.le_of_ble_eq_true rfl), (Nat.le_of_ble_eq_true rfl)⟩ (Nat.le_of_ble_eq_true rfl) rfl dX11_findGuide_22 (fun M9 h => ?_)
    refine x_aload_n E dX11_findGuide_25 rfl 0 rfl ?_
    obtain ⟨hT, v10, hv, h⟩ := h
    refine x_get E flX11_180 dX11_findGuide_26 hT hv ?_
    clear hT hv
    refine x_istore_n (L' := [(2, .int v10), (0, .ref a0), (1, .int x1)]) E dX11_findGuide_29 rfl (by decide) rfl ?_
    refine x_iconst (v := (J 0)) E dX11_findGuide_30 (by decide) ?_
    refine x_istore_n (L' := [(3, .int (J 0)), (2, .int v10), (0, .ref a0), (1, .int x1)]) E dX11_findGuide_31 rfl (by decide) rfl ?_
    refine x_sub (L' := [(0, .ref a0), (1, .int x1), (2, .int v10), (3, .int (J 0))]) [2, 3, 1, 0] rfl ?_
    refine lp_sound (T := fun sv => xG p l e ({ frames := 3, cells := 0, slots := 0, locals := 66 } : Room) s m args below meth c (MQ below (va_Qi K (xWd z D cA) (xA z)) args s 0 0 (xA z)) 6 z D cA sv.1 (0) (0) 32 [(0, .ref a0), (1, .int x1), (2, .int v10), (3, .int sv.2)] []) ?_ (M9, (J 0)) h
    clear h
    intro kc32 hk32 sv h
    obtain ⟨M, x3⟩ := sv
    replace h : CX11_findGuide_32 K a0 x1 v10 kc32 M x3 := h
    try dsimp only
    refine x_iload_n E dX11_findGuide_32 rfl 3 rfl ?_
    refine x_iload_n E dX11_findGuide_33 rfl 2 rfl ?_
    refine x_icmp_ge (tgt := 55) E dX11_findGuide_34 (by decide) (fun c11 => ?_) (fun c11 => ?_)
    · replace h := xbr_t h c11
      clear c11
      refine x_iconst (v := (J 1)) E dX11_findGuide_55 (by decide) ?_
      refine x_istore_n (L' := [(3, .int (J 1)), (0, .ref a0), (1, .int x1), (2, .int v10)]) E dX11_findGuide_56 rfl (by decide) rfl ?_
      refine x_iconst (v := (J 0)) E dX11_findGuide_57 (by decide) ?_
      refine x_istore (L' := [(4, .int (J 0)), (3, .int (J 1)), (0, .ref a0), (1, .int x1), (2, .int v10)]) E dX11_findGuide_58 (by decide) rfl ?_
      refine x_sub (L' := [(0, .ref a0), (1, .int x1), (2, .int v10), (3, .int (J 1)), (4, .int (J 0))]) [2, 3, 4, 1, 0] rfl ?_
      refine lp_sound (T := fun sv => xG p l e ({ frames := 3, cells := 0, slots := 0, locals := 66 } : Room) s m args below meth c (MQ below (va_Qi K (xWd z D cA) (xA z)) args s 0 0 (xA z)) 6 z D cA sv.1 (0) (0) 60 [(0, .ref a0), (1, .int x1), (2, .int v10), (3, .int sv.2.1), (4, .int sv.2.2)] []) ?_ (M, (J 1), (J 0)) h
      clear h
      intro kc60 hk60 sv h
      obtain ⟨M, x3, x4⟩ := sv
      replace h : CX11_findGuide_60 K a0 x1 v10 kc60 M x3 x4 := h
      try dsimp only
      have hJ122 : ∀ (M : Mem) (j3 : Int32) (j4 : Int32) (j5 : Int32), JX11_findGuide_122 K kc60 M a0 x1 v10 j3 j4 j5 → xG p l e ({ frames := 3, cells := 0, slots := 0, locals := 66 } : Room) s m args below meth c (MQ below (va_Qi K (xWd z D cA) (xA z)) args s 0 0 (xA z)) 6 z D cA M (0) (0) 122 [(0, .ref a0), (1, .int x1), (2, .int v10), (3, .int j3), (4, .int j4), (5, .int j5)] [] := by
        intro M j3 j4 j5 h
        refine x_iload E dX11_findGuide_122 5 rfl ?_
        refine x_iconst (v := (J 1)) E dX11_findGuide_124 (by decide) ?_
        refine x_iadd E dX11_findGuide_125 ?_
        refine x_iload_n E dX11_findGuide_126 rfl 3 rfl ?_
        refine x_icmp_le (tgt := 137) E dX11_findGuide_127 (by decide) (fun c21 => ?_) (fun c21 => ?_)
        · replace h := xbr_t h c21
          clear c21
          refine x_iload_n E dX11_findGuide_137 rfl 3 rfl ?_
          refine x_istore_n (L' := [(3, .int j3), (0, .ref a0), (1, .int x1), (2, .int v10), (4, .int j4), (5, .int j5)]) E dX11_findGuide_138 rfl (by decide) rfl ?_
          refine x_iinc (v := (j4 + (J 1))) (L' := [(4, .int (j4 + (J 1))), (3, .int j3), (0, .ref a0), (1, .int x1), (2, .int v10), (5, .int j5)]) E dX11_findGuide_139 4 rfl rfl (by decide) rfl ?_
          refine x_goto (tgt := 60) E dX11_findGuide_142 (by decide) ?_
          refine x_sub (L' := [(0, .ref a0), (1, .int x1), (2, .int v10), (3, .int j3), (4, .int (j4 + (J 1)))]) [2, 3, 4, 1, 0] rfl ?_
          exact hk60 (M, j3, (j4 + (J 1))) h
        · replace h := xbr_f h c21
          clear c21
          refine x_iload E dX11_findGuide_130 5 rfl ?_
          refine x_iconst (v := (J 1)) E dX11_findGuide_132 (by decide) ?_
          refine x_iadd E dX11_findGuide_133 ?_
          refine x_goto (tgt := 138) E dX11_findGuide_134 (by decide) ?_
          obtain ⟨y22, ey22, h⟩ := h
          refine x_top (v := .int y22) (congrArg _ ey22) ?_
          clear ey22
          refine x_istore_n (L' := [(3, .int y22), (0, .ref a0), (1, .int x1), (2, .int v10), (4, .int j4), (5, .int j5)]) E dX11_findGuide_138 rfl (by decide) rfl ?_
          refine x_iinc (v := (j4 + (J 1))) (L' := [(4, .int (j4 + (J 1))), (3, .int y22), (0, .ref a0), (1, .int x1), (2, .int v10), (5, .int j5)]) E dX11_findGuide_139 4 rfl rfl (by decide) rfl ?_
          refine x_goto (tgt := 60) E dX11_findGuide_142 (by decide) ?_
          refine x_sub (L' := [(0, .ref a0), (1, .int x1), (2, .int v10), (3, .int y22), (4, .int (j4 + (J 1)))]) [2, 3, 4, 1, 0] rfl ?_
          exact hk60 (M, y22, (j4 + (J 1))) h
      refine x_iload E dX11_findGuide_60 4 rfl ?_
      refine x_aload_n E dX11_findGuide_62 rfl 0 rfl ?_
      refine x_iload_n E dX11_findGuide_63 rfl 1 rfl ?_
      refine x_callVi (T := TX11) (N := 32) (t := 12) (As := [.int x1]) E mlX11_177 inX11_firstOf seX11_firstOf rfl ⟨by decide, by decide⟩ (tX11_firstOf h) (kX11_firstOf l z D cA a0 x1 M _ h) rfl ⟨rfl, rfl⟩ ⟨Nat.le_of_ble_eq_true rfl, Nat.le_of_ble_eq_true rfl⟩ ⟨(Nat.le_of_ble_eq_true rfl), (Nat.le_of_ble_eq_true rfl)⟩ (Nat.le_of_ble_eq_true rfl) rfl dX11_findGuide_64 (x_pure (fun r12 h => ?_))
      refine x_icmp_ge (tgt := 145) E dX11_findGuide_67 (by decide) (fun c14 => ?_) (fun c14 => ?_)
      · replace h := xbr_t h c14
        clear c14
        refine x_iload_n E dX11_findGuide_145 rfl 3 rfl ?_
        refine x_iload_n E dX11_findGuide_146 rfl 2 rfl ?_
        refine x_icmp_le (tgt := 154) E dX11_findGuide_147 (by decide) (fun c15 => ?_) (fun c15 => ?_)
        · replace h := xbr_t h c15
          clear c15
          refine x_iload_n E dX11_findGuide_154 rfl 3 rfl ?_
          exact x_iret E hr hlk dX11_findGuide_155 h
        · replace h := xbr_f h c15
          clear c15
          refine x_iload_n E dX11_findGuide_150 rfl 2 rfl ?_
          refine x_goto (tgt := 155) E dX11_findGuide_151 (by decide) ?_
          exact x_iret E hr hlk dX11_findGuide_155 h
      · replace h := xbr_f h c14
        clear c14
        refine x_aload_n E dX11_findGuide_70 rfl 0 rfl ?_
        refine x_aload_n E dX11_findGuide_71 rfl 0 rfl ?_
        obtain ⟨hT, q16, hv, h⟩ := h
        refine x_get E flX11_28 dX11_findGuide_72 hT hv ?_
        clear hT hv
        refine x_iload E dX11_findGuide_75 4 rfl ?_
        obtain ⟨hT, hi, v17, hv, h⟩ := h
        refine x_iald E dX11_findGuide_77 hT hi hv ?_
        clear hT hi hv
        refine x_callVv (T := TX11) (N := 32) (t := 12) (As := [.int v17]) E mlX11_191 inX11_writeMark seX11_writeMark rfl ⟨by decide, by decide⟩ (tX11_writeMark h) (kX11_writeMark l z D cA a0 v17 M _ h) rfl ⟨rfl, rfl⟩ ⟨Nat.le_of_ble_eq_true rfl, Nat.le_of_ble_eq_true rfl⟩ ⟨(Nat.le_of_ble_eq_true rfl), (Nat.le_of_ble_eq_true rfl)⟩ (Nat.le_of_ble_eq_true rfl) rfl dX11_findGuide_78 (fun M19 h => ?_)
        refine x_iconst (v := (J 0)) E dX11_findGuide_81 (by decide) ?_
        refine x_istore (L' := [(5, .int (J 0)), (0, .ref a0), (1, .int x1), (2, .int v10), (3, .int x3), (4, .int x4)]) E dX11_findGuide_82 (by decide) rfl ?_
        refine x_sub (L' := [(0, .ref a0), (1, .int x1), (2, .int v10), (3, .int x3), (4, .int x4), (5, .int (J 0))]) [1, 2, 3, 4, 5, 0] rfl ?_
        refine lp_sound (T := fun sv => xG p l e ({ frames := 3, cells := 0, slots := 0, locals := 66 } : Room) s m args below meth c (MQ below (va_Qi K (xWd z D cA) (xA z)) args s 0 0 (xA z)) 6 z D cA M19 (0) (0) 84 [(0, .ref a0), (1, .int x1), (2, .int v10), (3, .int x3), (4, .int x4), (5, .int sv)] []) ?_ (J 0) h
        clear h
        intro kc84 hk84 sv h
        obtain ⟨x5, esv⟩ : ∃ y, y = sv := ⟨_, rfl⟩
        subst esv
        replace h : CX11_findGuide_84 K kc60 M19 a0 x1 v10 x3 x4 kc84 x5 := h
        try dsimp only
        refine x_iload E dX11_findGuide_84 5 rfl ?_
        refine x_iload_n E dX11_findGuide_86 rfl 2 rfl ?_
        refine x_icmp_ge (tgt := 122) E dX11_findGuide_87 (by decide) (fun c20 => ?_) (fun c20 => ?_)
        · replace h := xbr_t h c20
          clear c20
          exact hJ122 M19 x3 x4 x5 h
        · replace h := xbr_f h c20
          clear c20
          refine x_iload E dX11_findGuide_90 5 rfl ?_
          refine x_aload_n E dX11_findGuide_92 rfl 0 rfl ?_
          obtain ⟨hT, v23, hv, h⟩ := h
          refine x_get E flX11_180 dX11_findGuide_93 hT hv ?_
          clear hT hv
          refine x_icmp_ge (tgt := 122) E dX11_findGuide_96 (by decide) (fun c24 => ?_) (fun c24 => ?_)
          · replace h := xbr_t h c24
            clear c24
            exact hJ122 M19 x3 x4 x5 h
          · replace h := xbr_f h c24
            clear c24
            refine x_aload_n E dX11_findGuide_99 rfl 0 rfl ?_
            obtain ⟨hT, q25, hv, h⟩ := h
            refine x_get E flX11_44 dX11_findGuide_100 hT hv ?_
            clear hT hv
            refine x_iload E dX11_findGuide_103 5 rfl ?_
            obtain ⟨hT, hi, v26, hv, h⟩ := h
            refine x_iald E dX11_findGuide_105 hT hi hv ?_
            clear hT hi hv
            refine x_aload_n E dX11_findGuide_106 rfl 0 rfl ?_
            obtain ⟨hT, q27, hv, h⟩ := h
            refine x_get E flX11_56 dX11_findGuide_107 hT hv ?_
            clear hT hv
            refine x_iload E dX11_findGuide_110 5 rfl ?_
            obtain ⟨hT, hi, v28, hv, h⟩ := h
            refine x_iald E dX11_findGuide_112 hT hi hv ?_
            clear hT hi hv
            refine x_icmp_ne (tgt := 122) E dX11_findGuide_113 (by decide) (fun c29 => ?_) (fun c29 => ?_)
            · replace h := xbr_f h c29
              clear c29
              exact hJ122 M19 x3 x4 x5 h
            · replace h := xbr_t h c29
              clear c29
              refine x_iinc (v := (x5 + (J 1))) (L' := [(5, .int (x5 + (J 1))), (0, .ref a0), (1, .int x1), (2, .int v10), (3, .int x3), (4, .int x4)]) E dX11_findGuide_116 5 rfl rfl (by decide) rfl ?_
              refine x_goto (tgt := 84) E dX11_findGuide_119 (by decide) ?_
              refine x_sub (L' := [(0, .ref a0), (1, .int x1), (2, .int v10), (3, .int x3), (4, .int x4), (5, .int (x5 + (J 1)))]) [1, 2, 3, 4, 5, 0] rfl ?_
              exact hk84 (x5 + (J 1)) h
    · replace h := xbr_f h c11
      clear c11
      refine x_aload_n E dX11_findGuide_37 rfl 0 rfl ?_
      obtain ⟨hT, q30, hv, h⟩ := h
      refine x_get E flX11_56 dX11_findGuide_38 hT hv ?_
      clear hT hv
      refine x_iload_n E dX11_findGuide_41 rfl 3 rfl ?_
      refine x_aload_n E dX11_findGuide_42 rfl 0 rfl ?_
      obtain ⟨hT, q31, hv, h⟩ := h
      refine x_get E flX11_44 dX11_findGuide_43 hT hv ?_
      clear hT hv
      refine x_iload_n E dX11_findGuide_46 rfl 3 rfl ?_
      obtain ⟨hT, hi, v32, hv, h⟩ := h
      refine x_iald E dX11_findGuide_47 hT hi hv ?_
      clear hT hi hv
      obtain ⟨hT, hi, h⟩ := h
      refine x_iast E dX11_findGuide_48 hT hi (fun M33 eM33 => ?_)
      replace h := h M33 eM33
      clear hT hi eM33
      refine x_iinc (v := (x3 + (J 1))) (L' := [(3, .int (x3 + (J 1))), (0, .ref a0), (1, .int x1), (2, .int v10)]) E dX11_findGuide_49 3 rfl rfl (by decide) rfl ?_
      refine x_goto (tgt := 32) E dX11_findGuide_52 (by decide) ?_
      refine x_sub (L' := [(0, .ref a0), (1, .int x1), (2, .int v10), (3, .int (x3 + (J 1)))]) [1, 2, 3, 0] rfl ?_
      exact hk32 (M33, (x3 + (J 1))) h
  · replace h := xbr_t h c3
    clear c3
    refine x_iconst (v := (J 0)) E dX11_findGuide_9 (by decide) ?_
    exact x_iret E hr hlk dX11_findGuide_10 h
