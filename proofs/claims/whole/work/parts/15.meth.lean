/-! contracts (by program) -/
theorem dX11_byteAt_0 : decode cX11_byteAt 0 = .ok (.aload_n 0, 1) := by decide +kernel
theorem dX11_byteAt_1 : decode cX11_byteAt 1 = .ok (.getfield 93, 3) := by decide +kernel
theorem dX11_byteAt_4 : decode cX11_byteAt 4 = .ok (.aload_n 0, 1) := by decide +kernel
theorem dX11_byteAt_5 : decode cX11_byteAt 5 = .ok (.getfield 88, 3) := by decide +kernel
theorem dX11_byteAt_8 : decode cX11_byteAt 8 = .ok (.if_icmp .ge 15, 3) := by decide +kernel
theorem dX11_byteAt_11 : decode cX11_byteAt 11 = .ok (.aload_n 0, 1) := by decide +kernel
theorem dX11_byteAt_12 : decode cX11_byteAt 12 = .ok (.getfield 37, 3) := by decide +kernel
theorem dX11_byteAt_15 : decode cX11_byteAt 15 = .ok (.aload_n 0, 1) := by decide +kernel
theorem dX11_byteAt_16 : decode cX11_byteAt 16 = .ok (.getfield 93, 3) := by decide +kernel
theorem dX11_byteAt_19 : decode cX11_byteAt 19 = .ok (.iaload, 1) := by decide +kernel
theorem dX11_byteAt_20 : decode cX11_byteAt 20 = .ok (.goto 4, 3) := by decide +kernel
theorem dX11_byteAt_23 : decode cX11_byteAt 23 = .ok (.iconst (-1), 1) := by decide +kernel
theorem dX11_byteAt_24 : decode cX11_byteAt 24 = .ok (.ireturn, 1) := by decide +kernel
set_option maxHeartbeats 4000000 in
set_option maxRecDepth 100000 in
theorem kX11_byteAt (l : Launch) (z : Nat) (D : va_G) (cA : Nat → ClassId) (a0 : Nat) (M : Mem) (K : Int32 → Prop) (h : PX11_byteAt a0 M K) : Met l yX11_byteAt (.code yX11_byteAt cX11_byteAt 1 (some .int) :: gtbl) ({ frames := 0, cells := 0, slots := 0, locals := 0 } : Room) (va_Pc [.ref a0] (xB z D cA M)) (va_Qi (fun r M1 => M1 = M ∧ K r) (xWd z D cA) (xA z)) 0 0 (xA z) := by
  refine x_met (by decide +kernel) (Nat.le_of_ble_eq_true rfl) (L0 := [(0, .ref a0)]) rfl ?_
  intro p e s m args below meth c E hr hlk hnm
  have E : xE RX11 cX11_byteAt 1 D cA p s m args c := E
  replace h := h.2
  refine x_aload_n E dX11_byteAt_0 rfl 0 rfl ?_
  obtain ⟨hT, v1, hv, h⟩ := h
  refine x_get E flX11_93 dX11_byteAt_1 hT hv ?_
  clear hT hv
  refine x_aload_n E dX11_byteAt_4 rfl 0 rfl ?_
  obtain ⟨hT, v2, hv, h⟩ := h
  refine x_get E flX11_88 dX11_byteAt_5 hT hv ?_
  clear hT hv
  refine x_icmp_ge (tgt := 23) E dX11_byteAt_8 (by decide) (fun c3 => ?_) (fun c3 => ?_)
  · replace h := xbr_t h c3
    clear c3
    refine x_iconst (v := (J (-1))) E dX11_byteAt_23 (by decide) ?_
    exact x_iret E hr hlk dX11_byteAt_24 ⟨rfl, h⟩
  · replace h := xbr_f h c3
    clear c3
    refine x_aload_n E dX11_byteAt_11 rfl 0 rfl ?_
    obtain ⟨hT, q4, hv, h⟩ := h
    refine x_get E flX11_37 dX11_byteAt_12 hT hv ?_
    clear hT hv
    refine x_aload_n E dX11_byteAt_15 rfl 0 rfl ?_
    obtain ⟨hT, v5, hv, h⟩ := h
    refine x_get E flX11_93 dX11_byteAt_16 hT hv ?_
    clear hT hv
    obtain ⟨hT, hi, v6, hv, h⟩ := h
    refine x_iald E dX11_byteAt_19 hT hi hv ?_
    clear hT hi hv
    refine x_goto (tgt := 24) E dX11_byteAt_20 (by decide) ?_
    exact x_iret E hr hlk dX11_byteAt_24 ⟨rfl, h⟩
theorem dX11_here_0 : decode cX11_here 0 = .ok (.aload_n 0, 1) := by decide +kernel
theorem dX11_here_1 : decode cX11_here 1 = .ok (.getfield 93, 3) := by decide +kernel
theorem dX11_here_4 : decode cX11_here 4 = .ok (.aload_n 0, 1) := by decide +kernel
theorem dX11_here_5 : decode cX11_here 5 = .ok (.getfield 88, 3) := by decide +kernel
theorem dX11_here_8 : decode cX11_here 8 = .ok (.if_icmp .ge 30, 3) := by decide +kernel
theorem dX11_here_11 : decode cX11_here 11 = .ok (.aload_n 0, 1) := by decide +kernel
theorem dX11_here_12 : decode cX11_here 12 = .ok (.getfield 37, 3) := by decide +kernel
theorem dX11_here_15 : decode cX11_here 15 = .ok (.aload_n 0, 1) := by decide +kernel
theorem dX11_here_16 : decode cX11_here 16 = .ok (.getfield 93, 3) := by decide +kernel
theorem dX11_here_19 : decode cX11_here 19 = .ok (.iaload, 1) := by decide +kernel
theorem dX11_here_20 : decode cX11_here 20 = .ok (.bipush 32, 2) := by decide +kernel
theorem dX11_here_22 : decode cX11_here 22 = .ok (.if_icmp .ne 16, 3) := by decide +kernel
theorem dX11_here_25 : decode cX11_here 25 = .ok (.aload_n 0, 1) := by decide +kernel
theorem dX11_here_26 : decode cX11_here 26 = .ok (.dup, 1) := by decide +kernel
theorem dX11_here_27 : decode cX11_here 27 = .ok (.getfield 93, 3) := by decide +kernel
theorem dX11_here_30 : decode cX11_here 30 = .ok (.iconst 1, 1) := by decide +kernel
theorem dX11_here_31 : decode cX11_here 31 = .ok (.iadd, 1) := by decide +kernel
theorem dX11_here_32 : decode cX11_here 32 = .ok (.putfield 93, 3) := by decide +kernel
theorem dX11_here_35 : decode cX11_here 35 = .ok (.goto (-35), 3) := by decide +kernel
theorem dX11_here_38 : decode cX11_here 38 = .ok (.aload_n 0, 1) := by decide +kernel
theorem dX11_here_39 : decode cX11_here 39 = .ok (.invokevirtual 96, 3) := by decide +kernel
theorem dX11_here_42 : decode cX11_here 42 = .ok (.ireturn, 1) := by decide +kernel
set_option maxHeartbeats 4000000 in
set_option maxRecDepth 100000 in
theorem kX11_here (l : Launch) (z : Nat) (D : va_G) (cA : Nat → ClassId) (a0 : Nat) (M : Mem) (K : Int32 → Mem → Prop) (h : PX11_here a0 M K) : Met l yX11_here (.code yX11_here cX11_here 1 (some .int) :: gtbl) ({ frames := 1, cells := 0, slots := 0, locals := 20 } : Room) (va_Pc [.ref a0] (xB z D cA M)) (va_Qi K (xWd z D cA) (xA z)) 0 0 (xA z) := by
  refine x_met (by decide +kernel) (Nat.le_of_ble_eq_true rfl) (L0 := [(0, .ref a0)]) rfl ?_
  intro p e s m args below meth c E hr hlk hnm
  have E : xE RX11 cX11_here 1 D cA p s m args c := E
  have hJ38 : ∀ (M : Mem) (j0 : Nat), JX11_here_38 K M j0 → xG p l e ({ frames := 1, cells := 0, slots := 0, locals := 20 } : Room) s m args below meth c (MQ below (va_Qi K (xWd z D cA) (xA z)) args s 0 0 (xA z)) 1 z D cA M (0) (0) 38 [(0, .ref j0)] [] := by
    intro M j0 h
    refine x_aload_n E dX11_here_38 rfl 0 rfl ?_
    refine x_callVi (T := TX11) (N := 32) (t := 12) (As := []) E mlX11_96 inX11_byteAt seX11_byteAt rfl ⟨by decide, by decide⟩ (tX11_byteAt h) (kX11_byteAt l z D cA j0 M _ h) rfl ⟨rfl, rfl⟩ ⟨Nat.le_of_ble_eq_true rfl, Nat.le_of_ble_eq_true rfl⟩ ⟨(Nat.le_of_ble_eq_true rfl), (Nat.le_of_ble_eq_true rfl)⟩ (Nat.le_of_ble_eq_true rfl) rfl dX11_here_39 (x_pure (fun r4 h => ?_))
    exact x_iret E hr hlk dX11_here_42 h
  replace h := h.2
  refine lp_sound (T := fun sv => xG p l e ({ frames := 1, cells := 0, slots := 0, locals := 20 } : Room) s m args below meth c (MQ below (va_Qi K (xWd z D cA) (xA z)) args s 0 0 (xA z)) 1 z D cA sv (0) (0) 0 [(0, .ref a0)] []) ?_ M h
  clear h
  intro kc0 hk0 sv h
  obtain ⟨M, esv⟩ : ∃ y, y = sv := ⟨_, rfl⟩
  subst esv
  replace h : CX11_here_0 K a0 kc0 M := h
  try dsimp only
  refine x_aload_n E dX11_here_0 rfl 0 rfl ?_
  obtain ⟨hT, v1, hv, h⟩ := h
  refine x_get E flX11_93 dX11_here_1 hT hv ?_
  clear hT hv
  refine x_aload_n E dX11_here_4 rfl 0 rfl ?_
  obtain ⟨hT, v2, hv, h⟩ := h
  refine x_get E flX11_88 dX11_here_5 hT hv ?_
  clear hT hv
  refine x_icmp_ge (tgt := 38) E dX11_here_8 (by decide) (fun c3 => ?_) (fun c3 => ?_)
  · replace h := xbr_t h c3
    clear c3
    exact hJ38 M a0 h
  · replace h := xbr_f h c3
    clear c3
    refine x_aload_n E dX11_here_11 rfl 0 rfl ?_
    obtain ⟨hT, q6, hv, h⟩ := h
    refine x_get E flX11_37 dX11_here_12 hT hv ?_
    clear hT hv
    refine x_aload_n E dX11_here_15 rfl 0 rfl ?_
    obtain ⟨hT, v7, hv, h⟩ := h
    refine x_get E flX11_93 dX11_here_16 hT hv ?_
    clear hT hv
    obtain ⟨hT, hi, v8, hv, h⟩ := h
    refine x_iald E dX11_here_19 hT hi hv ?_
    clear hT hi hv
    refine x_bipush (v := (J 32)) E dX11_here_20 (by decide) ?_
    refine x_icmp_ne (tgt := 38) E dX11_here_22 (by decide) (fun c9 => ?_) (fun c9 => ?_)
    · replace h := xbr_f h c9
      clear c9
      exact hJ38 M a0 h
    · replace h := xbr_t h c9
      clear c9
      refine x_aload_n E dX11_here_25 rfl 0 rfl ?_
      refine x_dup E dX11_here_26 rfl ?_
      obtain ⟨hT, v10, hv, h⟩ := h
      refine x_get E flX11_93 dX11_here_27 hT hv ?_
      clear hT hv
      refine x_iconst (v := (J 1)) E dX11_here_30 (by decide) ?_
      refine x_iadd E dX11_here_31 ?_
      obtain ⟨hT, h⟩ := h
      refine x_put E flX11_93 ⟨tyX11_ok, nmX11, rfl⟩ (by decide +kernel) rfl rfl dX11_here_32 hT (fun M11 eM11 => ?_)
      replace h := h M11 eM11
      clear hT eM11
      refine x_goto (tgt := 0) E dX11_here_35 (by decide) ?_
      exact hk0 M11 h
theorem dX11_fails_0 : decode cX11_fails 0 = .ok (.aload_n 0, 1) := by decide +kernel
theorem dX11_fails_1 : decode cX11_fails 1 = .ok (.iload_n 2, 1) := by decide +kernel
theorem dX11_fails_2 : decode cX11_fails 2 = .ok (.putfield 40, 3) := by decide +kernel
theorem dX11_fails_5 : decode cX11_fails 5 = .ok (.iload_n 1, 1) := by decide +kernel
theorem dX11_fails_6 : decode cX11_fails 6 = .ok (.ireturn, 1) := by decide +kernel
set_option maxHeartbeats 4000000 in
set_option maxRecDepth 100000 in
theorem kX11_fails (l : Launch) (z : Nat) (D : va_G) (cA : Nat → ClassId) (a0 : Nat) (x1 : Int32) (x2 : Int32) (M : Mem) (K : Int32 → Mem → Prop) (h : PX11_fails a0 x1 x2 M K) : Met l yX11_fails (.code yX11_fails cX11_fails 3 (some .int) :: gtbl) ({ frames := 0, cells := 0, slots := 0, locals := 0 } : Room) (va_Pc [.ref a0, .int x1, .int x2] (xB z D cA M)) (va_Qi K (xWd z D cA) (xA z)) 0 0 (xA z) := by
  refine x_met (by decide +kernel) (Nat.le_of_ble_eq_true rfl) (L0 := [(0, .ref a0), (1, .int x1), (2, .int x2)]) rfl ?_
  intro p e s m args below meth c E hr hlk hnm
  have E : xE RX11 cX11_fails 3 D cA p s m args c := E
  replace h := h.2
  refine x_aload_n E dX11_fails_0 rfl 0 rfl ?_
  refine x_iload_n E dX11_fails_1 rfl 2 rfl ?_
  obtain ⟨hT, h⟩ := h
  refine x_put E flX11_40 ⟨tyX11_ok, nmX11, rfl⟩ (by decide +kernel) rfl rfl dX11_fails_2 hT (fun M1 eM1 => ?_)
  replace h := h M1 eM1
  clear hT eM1
  refine x_iload_n E dX11_fails_5 rfl 1 rfl ?_
  exact x_iret E hr hlk dX11_fails_6 h
theorem dX11_isLetter_0 : decode cX11_isLetter 0 = .ok (.aload_n 0, 1) := by decide +kernel
theorem dX11_isLetter_1 : decode cX11_isLetter 1 = .ok (.invokevirtual 96, 3) := by decide +kernel
theorem dX11_isLetter_4 : decode cX11_isLetter 4 = .ok (.i2l, 1) := by decide +kernel
theorem dX11_isLetter_5 : decode cX11_isLetter 5 = .ok (.ldc2_w 100, 3) := by decide +kernel
theorem dX11_isLetter_8 : decode cX11_isLetter 8 = .ok (.ldc2_w 102, 3) := by decide +kernel
theorem dX11_isLetter_11 : decode cX11_isLetter 11 = .ok (.invokestatic 78, 3) := by decide +kernel
theorem dX11_isLetter_14 : decode cX11_isLetter 14 = .ok (.ireturn, 1) := by decide +kernel
set_option maxHeartbeats 4000000 in
set_option maxRecDepth 100000 in
theorem kX11_isLetter (l : Launch) (z : Nat) (D : va_G) (cA : Nat → ClassId) (a0 : Nat) (M : Mem) (K : Int32 → Prop) (h : PX11_isLetter a0 M K) : Met l yX11_isLetter (.code yX11_isLetter cX11_isLetter 1 (some .boolean) :: gtbl) ({ frames := 1, cells := 0, slots := 0, locals := 25 } : Room) (va_Pc [.ref a0] (xB z D cA M)) (va_Qi (fun r M1 => M1 = M ∧ K r) (xWd z D cA) (xA z)) 0 0 (xA z) := by
  refine x_met (by decide +kernel) (Nat.le_of_ble_eq_true rfl) (L0 := [(0, .ref a0)]) rfl ?_
  intro p e s m args below meth c E hr hlk hnm
  have E : xE RX11 cX11_isLetter 1 D cA p s m args c := E
  replace h := h.2
  refine x_aload_n E dX11_isLetter_0 rfl 0 rfl ?_
  refine x_callVi (T := TX11) (N := 32) (t := 12) (As := []) E mlX11_96 inX11_byteAt seX11_byteAt rfl ⟨by decide, by decide⟩ (tX11_byteAt h) (kX11_byteAt l z D cA a0 M _ h) rfl ⟨rfl, rfl⟩ ⟨Nat.le_of_ble_eq_true rfl, Nat.le_of_ble_eq_true rfl⟩ ⟨(Nat.le_of_ble_eq_true rfl), (Nat.le_of_ble_eq_true rfl)⟩ (Nat.le_of_ble_eq_true rfl) rfl dX11_isLetter_1 (x_pure (fun r1 h => ?_))
  refine x_i2l E dX11_isLetter_4 ?_
  refine x_ldc2 (v := (LJ 97)) E (gw 996 (by decide +kernel) rfl) dX11_isLetter_5 ?_
  refine x_ldc2 (v := (LJ 122)) E (gw 997 (by decide +kernel) rfl) dX11_isLetter_8 ?_
  refine x_callSi (As := [.long r1.toInt64, .long (LJ 97), .long (LJ 122)]) E mlX11_78 rfl stX11_in (kX11_in l z D cA r1.toInt64 (LJ 97) (LJ 122) M _ h) rfl ⟨rfl, rfl⟩ ⟨Nat.le_of_ble_eq_true rfl, Nat.le_of_ble_eq_true rfl⟩ ⟨(Nat.le_of_ble_eq_true rfl), (Nat.le_of_ble_eq_true rfl)⟩ (Nat.le_of_ble_eq_true rfl) rfl dX11_isLetter_11 (x_pure (fun r3 h => ?_))
  exact x_zret E hr hlk dX11_isLetter_14 h.1 ⟨rfl, h.2⟩
theorem dX11_isFigure_0 : decode cX11_isFigure 0 = .ok (.aload_n 0, 1) := by decide +kernel
theorem dX11_isFigure_1 : decode cX11_isFigure 1 = .ok (.invokevirtual 96, 3) := by decide +kernel
theorem dX11_isFigure_4 : decode cX11_isFigure 4 = .ok (.i2l, 1) := by decide +kernel
theorem dX11_isFigure_5 : decode cX11_isFigure 5 = .ok (.ldc2_w 104, 3) := by decide +kernel
theorem dX11_isFigure_8 : decode cX11_isFigure 8 = .ok (.ldc2_w 106, 3) := by decide +kernel
theorem dX11_isFigure_11 : decode cX11_isFigure 11 = .ok (.invokestatic 78, 3) := by decide +kernel
theorem dX11_isFigure_14 : decode cX11_isFigure 14 = .ok (.ireturn, 1) := by decide +kernel
set_option maxHeartbeats 4000000 in
set_option maxRecDepth 100000 in
theorem kX11_isFigure (l : Launch) (z : Nat) (D : va_G) (cA : Nat → ClassId) (a0 : Nat) (M : Mem) (K : Int32 → Prop) (h : PX11_isFigure a0 M K) : Met l yX11_isFigure (.code yX11_isFigure cX11_isFigure 1 (some .boolean) :: gtbl) ({ frames := 1, cells := 0, slots := 0, locals := 25 } : Room) (va_Pc [.ref a0] (xB z D cA M)) (va_Qi (fun r M1 => M1 = M ∧ K r) (xWd z D cA) (xA z)) 0 0 (xA z) := by
  refine x_met (by decide +kernel) (Nat.le_of_ble_eq_true rfl) (L0 := [(0, .ref a0)]) rfl ?_
  intro p e s m args below meth c E hr hlk hnm
  have E : xE RX11 cX11_isFigure 1 D cA p s m args c := E
  replace h := h.2
  refine x_aload_n E dX11_isFigure_0 rfl 0 rfl ?_
  refine x_callVi (T := TX11) (N := 32) (t := 12) (As := []) E mlX11_96 inX11_byteAt seX11_byteAt rfl ⟨by decide, by decide⟩ (tX11_byteAt h) (kX11_byteAt l z D cA a0 M _ h) rfl ⟨rfl, rfl⟩ ⟨Nat.le_of_ble_eq_true rfl, Nat.le_of_ble_eq_true rfl⟩ ⟨(Nat.le_of_ble_eq_true rfl), (Nat.le_of_ble_eq_true rfl)⟩ (Nat.le_of_ble_eq_true rfl) rfl dX11_isFigure_1 (x_pure (fun r1 h => ?_))
  refine x_i2l E dX11_isFigure_4 ?_
  refine x_ldc2 (v := (LJ 48)) E (gw 1010 (by decide +kernel) rfl) dX11_isFigure_5 ?_
  refine x_ldc2 (v := (LJ 57)) E (gw 1011 (by decide +kernel) rfl) dX11_isFigure_8 ?_
  refine x_callSi (As := [.long r1.toInt64, .long (LJ 48), .long (LJ 57)]) E mlX11_78 rfl stX11_in (kX11_in l z D cA r1.toInt64 (LJ 48) (LJ 57) M _ h) rfl ⟨rfl, rfl⟩ ⟨Nat.le_of_ble_eq_true rfl, Nat.le_of_ble_eq_true rfl⟩ ⟨(Nat.le_of_ble_eq_true rfl), (Nat.le_of_ble_eq_true rfl)⟩ (Nat.le_of_ble_eq_true rfl) rfl dX11_isFigure_11 (x_pure (fun r3 h => ?_))
  exact x_zret E hr hlk dX11_isFigure_14 h.1 ⟨rfl, h.2⟩
theorem dX11_takeFigures_0 : decode cX11_takeFigures 0 = .ok (.aload_n 0, 1) := by decide +kernel
theorem dX11_takeFigures_1 : decode cX11_takeFigures 1 = .ok (.iconst 0, 1) := by decide +kernel
theorem dX11_takeFigures_2 : decode cX11_takeFigures 2 = .ok (.putfield 108, 3) := by decide +kernel
theorem dX11_takeFigures_5 : decode cX11_takeFigures 5 = .ok (.aload_n 0, 1) := by decide +kernel
theorem dX11_takeFigures_6 : decode cX11_takeFigures 6 = .ok (.invokevirtual 111, 3) := by decide +kernel
theorem dX11_takeFigures_9 : decode cX11_takeFigures 9 = .ok (.ifCond .eq 62, 3) := by decide +kernel
theorem dX11_takeFigures_12 : decode cX11_takeFigures 12 = .ok (.aload_n 0, 1) := by decide +kernel
theorem dX11_takeFigures_13 : decode cX11_takeFigures 13 = .ok (.getfield 108, 3) := by decide +kernel
theorem dX11_takeFigures_16 : decode cX11_takeFigures 16 = .ok (.iconst 4, 1) := by decide +kernel
theorem dX11_takeFigures_17 : decode cX11_takeFigures 17 = .ok (.if_icmp .ne 13, 3) := by decide +kernel
theorem dX11_takeFigures_20 : decode cX11_takeFigures 20 = .ok (.aload_n 0, 1) := by decide +kernel
theorem dX11_takeFigures_21 : decode cX11_takeFigures 21 = .ok (.iconst 2, 1) := by decide +kernel
theorem dX11_takeFigures_22 : decode cX11_takeFigures 22 = .ok (.aload_n 0, 1) := by decide +kernel
theorem dX11_takeFigures_23 : decode cX11_takeFigures 23 = .ok (.getfield 93, 3) := by decide +kernel
theorem dX11_takeFigures_26 : decode cX11_takeFigures 26 = .ok (.invokevirtual 115, 3) := by decide +kernel
theorem dX11_takeFigures_29 : decode cX11_takeFigures 29 = .ok (.ireturn, 1) := by decide +kernel
theorem dX11_takeFigures_30 : decode cX11_takeFigures 30 = .ok (.aload_n 0, 1) := by decide +kernel
theorem dX11_takeFigures_31 : decode cX11_takeFigures 31 = .ok (.getfield 7, 3) := by decide +kernel
theorem dX11_takeFigures_34 : decode cX11_takeFigures 34 = .ok (.iload_n 1, 1) := by decide +kernel
theorem dX11_takeFigures_35 : decode cX11_takeFigures 35 = .ok (.aload_n 0, 1) := by decide +kernel
theorem dX11_takeFigures_36 : decode cX11_takeFigures 36 = .ok (.getfield 108, 3) := by decide +kernel
theorem dX11_takeFigures_39 : decode cX11_takeFigures 39 = .ok (.iadd, 1) := by decide +kernel
theorem dX11_takeFigures_40 : decode cX11_takeFigures 40 = .ok (.aload_n 0, 1) := by decide +kernel
theorem dX11_takeFigures_41 : decode cX11_takeFigures 41 = .ok (.invokevirtual 96, 3) := by decide +kernel
theorem dX11_takeFigures_44 : decode cX11_takeFigures 44 = .ok (.bipush 48, 2) := by decide +kernel
theorem dX11_takeFigures_46 : decode cX11_takeFigures 46 = .ok (.isub, 1) := by decide +kernel
theorem dX11_takeFigures_47 : decode cX11_takeFigures 47 = .ok (.iastore, 1) := by decide +kernel
theorem dX11_takeFigures_48 : decode cX11_takeFigures 48 = .ok (.aload_n 0, 1) := by decide +kernel
theorem dX11_takeFigures_49 : decode cX11_takeFigures 49 = .ok (.dup, 1) := by decide +kernel
theorem dX11_takeFigures_50 : decode cX11_takeFigures 50 = .ok (.getfield 108, 3) := by decide +kernel
theorem dX11_takeFigures_53 : decode cX11_takeFigures 53 = .ok (.iconst 1, 1) := by decide +kernel
theorem dX11_takeFigures_54 : decode cX11_takeFigures 54 = .ok (.iadd, 1) := by decide +kernel
theorem dX11_takeFigures_55 : decode cX11_takeFigures 55 = .ok (.putfield 108, 3) := by decide +kernel
theorem dX11_takeFigures_58 : decode cX11_takeFigures 58 = .ok (.aload_n 0, 1) := by decide +kernel
theorem dX11_takeFigures_59 : decode cX11_takeFigures 59 = .ok (.dup, 1) := by decide +kernel
theorem dX11_takeFigures_60 : decode cX11_takeFigures 60 = .ok (.getfield 93, 3) := by decide +kernel
theorem dX11_takeFigures_63 : decode cX11_takeFigures 63 = .ok (.iconst 1, 1) := by decide +kernel
theorem dX11_takeFigures_64 : decode cX11_takeFigures 64 = .ok (.iadd, 1) := by decide +kernel
theorem dX11_takeFigures_65 : decode cX11_takeFigures 65 = .ok (.putfield 93, 3) := by decide +kernel
theorem dX11_takeFigures_68 : decode cX11_takeFigures 68 = .ok (.goto (-63), 3) := by decide +kernel
theorem dX11_takeFigures_71 : decode cX11_takeFigures 71 = .ok (.aload_n 0, 1) := by decide +kernel
theorem dX11_takeFigures_72 : decode cX11_takeFigures 72 = .ok (.getfield 108, 3) := by decide +kernel
theorem dX11_takeFigures_75 : decode cX11_takeFigures 75 = .ok (.ifCond .ne 15, 3) := by decide +kernel
theorem dX11_takeFigures_78 : decode cX11_takeFigures 78 = .ok (.aload_n 0, 1) := by decide +kernel
theorem dX11_takeFigures_79 : decode cX11_takeFigures 79 = .ok (.iconst 1, 1) := by decide +kernel
theorem dX11_takeFigures_80 : decode cX11_takeFigures 80 = .ok (.aload_n 0, 1) := by decide +kernel
theorem dX11_takeFigures_81 : decode cX11_takeFigures 81 = .ok (.getfield 93, 3) := by decide +kernel
theorem dX11_takeFigures_84 : decode cX11_takeFigures 84 = .ok (.invokevirtual 115, 3) := by decide +kernel
theorem dX11_takeFigures_87 : decode cX11_takeFigures 87 = .ok (.goto 4, 3) := by decide +kernel
theorem dX11_takeFigures_90 : decode cX11_takeFigures 90 = .ok (.iconst 0, 1) := by decide +kernel
theorem dX11_takeFigures_91 : decode cX11_takeFigures 91 = .ok (.ireturn, 1) := by decide +kernel
set_option maxHeartbeats 4000000 in
set_option maxRecDepth 100000 in
theorem kX11_takeFigures (l : Launch) (z : Nat) (D : va_G) (cA : Nat → ClassId) (a0 : Nat) (x1 : Int32) (M : Mem) (K : Int32 → Mem → Prop) (h : PX11_takeFigures a0 x1 M K) : Met l yX11_takeFigures (.code yX11_takeFigures cX11_takeFigures 2 (some .int) :: gtbl) ({ frames := 2, cells := 0, slots := 0, locals := 45 } : Room) (va_Pc [.ref a0, .int x1] (xB z D cA M)) (va_Qi K (xWd z D cA) (xA z)) 0 0 (xA z) := by
  refine x_met (by decide +kernel) (Nat.le_of_ble_eq_true rfl) (L0 := [(0, .ref a0), (1, .int x1)]) rfl ?_
  intro p e s m args below meth c E hr hlk hnm
  have E : xE RX11 cX11_takeFigures 2 D cA p s m args c := E
  replace h := h.2
  refine x_aload_n E dX11_takeFigures_0 rfl 0 rfl ?_
  refine x_iconst (v := (J 0)) E dX11_takeFigures_1 (by decide) ?_
  obtain ⟨hT, h⟩ := h
  refine x_put E flX11_108 ⟨tyX11_ok, nmX11, rfl⟩ (by decide +kernel) rfl rfl dX11_takeFigures_2 hT (fun M1 eM1 => ?_)
  replace h := h M1 eM1
  clear hT eM1
  refine lp_sound (T := fun sv => xG p l e ({ frames := 2, cells := 0, slots := 0, locals := 45 } : Room) s m args below meth c (MQ below (va_Qi K (xWd z D cA) (xA z)) args s 0 0 (xA z)) 2 z D cA sv (0) (0) 5 [(0, .ref a0), (1, .int x1)] []) ?_ M1 h
  clear h
  intro kc5 hk5 sv h
  obtain ⟨M, esv⟩ : ∃ y, y = sv := ⟨_, rfl⟩
  subst esv
  replace h : CX11_takeFigures_5 K a0 x1 kc5 M := h
  try dsimp only
  refine x_aload_n E dX11_takeFigures_5 rfl 0 rfl ?_
  refine x_callVi (T := TX11) (N := 32) (t := 12) (As := []) E mlX11_111 inX11_isFigure seX11_isFigure rfl ⟨by decide, by decide⟩ (tX11_isFigure h) (kX11_isFigure l z D cA a0 M _ h) rfl ⟨rfl, rfl⟩ ⟨Nat.le_of_ble_eq_true rfl, Nat.le_of_ble_eq_true rfl⟩ ⟨(Nat.le_of_ble_eq_true rfl), (Nat.le_of_ble_eq_true rfl)⟩ (Nat.le_of_ble_eq_true rfl) rfl dX11_takeFigures_6 (x_pure (fun r2 h => ?_))
  refine x_if_eq (tgt := 71) E dX11_takeFigures_9 (by decide) (fun c4 => ?_) (fun c4 => ?_)
  · replace h := xbr_t h c4
    clear c4
    refine x_aload_n E dX11_takeFigures_71 rfl 0 rfl ?_
    obtain ⟨hT, v5, hv, h⟩ := h
    refine x_get E flX11_108 dX11_takeFigures_72 hT hv ?_
    clear hT hv
    refine x_if_ne (tgt := 90) E dX11_takeFigures_75 (by decide) (fun c6 => ?_) (fun c6 => ?_)
    · replace h := xbr_f h c6
      clear c6
      refine x_iconst (v := (J 0)) E dX11_takeFigures_90 (by decide) ?_
      exact x_iret E hr hlk dX11_takeFigures_91 h
    · replace h := xbr_t h c6
      clear c6
      refine x_aload_n E dX11_takeFigures_78 rfl 0 rfl ?_
      refine x_iconst (v := (J 1)) E dX11_takeFigures_79 (by decide) ?_
      refine x_aload_n E dX11_takeFigures_80 rfl 0 rfl ?_
      obtain ⟨hT, v7, hv, h⟩ := h
      refine x_get E flX11_93 dX11_takeFigures_81 hT hv ?_
      clear hT hv
      refine x_callVi (T := TX11) (N := 32) (t := 12) (As := [.int (J 1), .int v7]) E mlX11_115 inX11_fails seX11_fails rfl ⟨by decide, by decide⟩ (tX11_fails h) (kX11_fails l z D cA a0 (J 1) v7 M _ h) rfl ⟨rfl, rfl⟩ ⟨Nat.le_of_ble_eq_true rfl, Nat.le_of_ble_eq_true rfl⟩ ⟨(Nat.le_of_ble_eq_true rfl), (Nat.le_of_ble_eq_true rfl)⟩ (Nat.le_of_ble_eq_true rfl) rfl dX11_takeFigures_84 (fun r8 M9 h => ?_)
      refine x_goto (tgt := 91) E dX11_takeFigures_87 (by decide) ?_
      exact x_iret E hr hlk dX11_takeFigures_91 h
  · replace h := xbr_f h c4
    clear c4
    refine x_aload_n E dX11_takeFigures_12 rfl 0 rfl ?_
    obtain ⟨hT, v10, hv, h⟩ := h
    refine x_get E flX11_108 dX11_takeFigures_13 hT hv ?_
    clear hT hv
    refine x_iconst (v := (J 4)) E dX11_takeFigures_16 (by decide) ?_
    refine x_icmp_ne (tgt := 30) E dX11_takeFigures_17 (by decide) (fun c11 => ?_) (fun c11 => ?_)
    · replace h := xbr_f h c11
      clear c11
      refine x_aload_n E dX11_takeFigures_30 rfl 0 rfl ?_
      obtain ⟨hT, q12, hv, h⟩ := h
      refine x_get E flX11_7 dX11_takeFigures_31 hT hv ?_
      clear hT hv
      refine x_iload_n E dX11_takeFigures_34 rfl 1 rfl ?_
      refine x_aload_n E dX11_takeFigures_35 rfl 0 rfl ?_
      obtain ⟨hT, v13, hv, h⟩ := h
      refine x_get E flX11_108 dX11_takeFigures_36 hT hv ?_
      clear hT hv
      refine x_iadd E dX11_takeFigures_39 ?_
      refine x_aload_n E dX11_takeFigures_40 rfl 0 rfl ?_
      refine x_callVi (T := TX11) (N := 32) (t := 12) (As := []) E mlX11_96 inX11_byteAt seX11_byteAt rfl ⟨by decide, by decide⟩ (tX11_byteAt h) (kX11_byteAt l z D cA a0 M _ h) rfl ⟨rfl, rfl⟩ ⟨Nat.le_of_ble_eq_true rfl, Nat.le_of_ble_eq_true rfl⟩ ⟨(Nat.le_of_ble_eq_true rfl), (Nat.le_of_ble_eq_true rfl)⟩ (Nat.le_of_ble_eq_true rfl) rfl dX11_takeFigures_41 (x_pure (fun r14 h => ?_))
      refine x_bipush (v := (J 48)) E dX11_takeFigures_44 (by decide) ?_
      refine x_isub E dX11_takeFigures_46 ?_
      obtain ⟨hT, hi, h⟩ := h
      refine x_iast E dX11_takeFigures_47 hT hi (fun M16 eM16 => ?_)
      replace h := h M16 eM16
      clear hT hi eM16
      refine x_aload_n E dX11_takeFigures_48 rfl 0 rfl ?_
      refine x_dup E dX11_takeFigures_49 rfl ?_
      obtain ⟨hT, v17, hv, h⟩ := h
      refine x_get E flX11_108 dX11_takeFigures_50 hT hv ?_
      clear hT hv
      refine x_iconst (v := (J 1)) E dX11_takeFigures_53 (by decide) ?_
      refine x_iadd E dX11_takeFigures_54 ?_
      obtain ⟨hT, h⟩ := h
      refine x_put E flX11_108 ⟨tyX11_ok, nmX11, rfl⟩ (by decide +kernel) rfl rfl dX11_takeFigures_55 hT (fun M18 eM18 => ?_)
      replace h := h M18 eM18
      clear hT eM18
      refine x_aload_n E dX11_takeFigures_58 rfl 0 rfl ?_
      refine x_dup E dX11_takeFigures_59 rfl ?_
      obtain ⟨hT, v19, hv, h⟩ := h
      refine x_get E flX11_93 dX11_takeFigures_60 hT hv ?_
      clear hT hv
      refine x_iconst (v := (J 1)) E dX11_takeFigures_63 (by decide) ?_
      refine x_iadd E dX11_takeFigures_64 ?_
      obtain ⟨hT, h⟩ := h
      refine x_put E flX11_93 ⟨tyX11_ok, nmX11, rfl⟩ (by decide +kernel) rfl rfl dX11_takeFigures_65 hT (fun M20 eM20 => ?_)
      replace h := h M20 eM20
      clear hT eM20
      refine x_goto (tgt := 5) E dX11_takeFigures_68 (by decide) ?_
      exact hk5 M20 h
    · replace h := xbr_t h c11
      clear c11
      refine x_aload_n E dX11_takeFigures_20 rfl 0 rfl ?_
      refine x_iconst (v := (J 2)) E dX11_takeFigures_21 (by decide) ?_
      refine x_aload_n E dX11_takeFigures_22 rfl 0 rfl ?_
      obtain ⟨hT, v21, hv, h⟩ := h
      refine x_get E flX11_93 dX11_takeFigures_23 hT hv ?_
      clear hT hv
      refine x_callVi (T := TX11) (N := 32) (t := 12) (As := [.int (J 2), .int v21]) E mlX11_115 inX11_fails seX11_fails rfl ⟨by decide, by decide⟩ (tX11_fails h) (kX11_fails l z D cA a0 (J 2) v21 M _ h) rfl ⟨rfl, rfl⟩ ⟨Nat.le_of_ble_eq_true rfl, Nat.le_of_ble_eq_true rfl⟩ ⟨(Nat.le_of_ble_eq_true rfl), (Nat.le_of_ble_eq_true rfl)⟩ (Nat.le_of_ble_eq_true rfl) rfl dX11_takeFigures_26 (fun r22 M23 h => ?_)
      exact x_iret E hr hlk dX11_takeFigures_29 h
theorem dX11_takeClass_0 : decode cX11_takeClass 0 = .ok (.aload_n 0, 1) := by decide +kernel
theorem dX11_takeClass_1 : decode cX11_takeClass 1 = .ok (.invokevirtual 119, 3) := by decide +kernel
theorem dX11_takeClass_4 : decode cX11_takeClass 4 = .ok (.ifCond .ne 13, 3) := by decide +kernel
theorem dX11_takeClass_7 : decode cX11_takeClass 7 = .ok (.aload_n 0, 1) := by decide +kernel
theorem dX11_takeClass_8 : decode cX11_takeClass 8 = .ok (.iconst 1, 1) := by decide +kernel
theorem dX11_takeClass_9 : decode cX11_takeClass 9 = .ok (.aload_n 0, 1) := by decide +kernel
theorem dX11_takeClass_10 : decode cX11_takeClass 10 = .ok (.getfield 93, 3) := by decide +kernel
theorem dX11_takeClass_13 : decode cX11_takeClass 13 = .ok (.invokevirtual 115, 3) := by decide +kernel
theorem dX11_takeClass_16 : decode cX11_takeClass 16 = .ok (.ireturn, 1) := by decide +kernel
theorem dX11_takeClass_17 : decode cX11_takeClass 17 = .ok (.aload_n 0, 1) := by decide +kernel
theorem dX11_takeClass_18 : decode cX11_takeClass 18 = .ok (.getfield 122, 3) := by decide +kernel
theorem dX11_takeClass_21 : decode cX11_takeClass 21 = .ok (.bipush 24, 2) := by decide +kernel
theorem dX11_takeClass_23 : decode cX11_takeClass 23 = .ok (.if_icmp .ne 13, 3) := by decide +kernel
theorem dX11_takeClass_26 : decode cX11_takeClass 26 = .ok (.aload_n 0, 1) := by decide +kernel
theorem dX11_takeClass_27 : decode cX11_takeClass 27 = .ok (.iconst 4, 1) := by decide +kernel
theorem dX11_takeClass_28 : decode cX11_takeClass 28 = .ok (.aload_n 0, 1) := by decide +kernel
theorem dX11_takeClass_29 : decode cX11_takeClass 29 = .ok (.getfield 93, 3) := by decide +kernel
theorem dX11_takeClass_32 : decode cX11_takeClass 32 = .ok (.invokevirtual 115, 3) := by decide +kernel
theorem dX11_takeClass_35 : decode cX11_takeClass 35 = .ok (.ireturn, 1) := by decide +kernel
theorem dX11_takeClass_36 : decode cX11_takeClass 36 = .ok (.aload_n 0, 1) := by decide +kernel
theorem dX11_takeClass_37 : decode cX11_takeClass 37 = .ok (.getfield 7, 3) := by decide +kernel
theorem dX11_takeClass_40 : decode cX11_takeClass 40 = .ok (.iload_n 1, 1) := by decide +kernel
theorem dX11_takeClass_41 : decode cX11_takeClass 41 = .ok (.aload_n 0, 1) := by decide +kernel
theorem dX11_takeClass_42 : decode cX11_takeClass 42 = .ok (.invokevirtual 96, 3) := by decide +kernel
theorem dX11_takeClass_45 : decode cX11_takeClass 45 = .ok (.bipush 97, 2) := by decide +kernel
theorem dX11_takeClass_47 : decode cX11_takeClass 47 = .ok (.isub, 1) := by decide +kernel
theorem dX11_takeClass_48 : decode cX11_takeClass 48 = .ok (.iastore, 1) := by decide +kernel
theorem dX11_takeClass_49 : decode cX11_takeClass 49 = .ok (.aload_n 0, 1) := by decide +kernel
theorem dX11_takeClass_50 : decode cX11_takeClass 50 = .ok (.getfield 7, 3) := by decide +kernel
theorem dX11_takeClass_53 : decode cX11_takeClass 53 = .ok (.iload_n 1, 1) := by decide +kernel
theorem dX11_takeClass_54 : decode cX11_takeClass 54 = .ok (.iconst 1, 1) := by decide +kernel
theorem dX11_takeClass_55 : decode cX11_takeClass 55 = .ok (.iadd, 1) := by decide +kernel
theorem dX11_takeClass_56 : decode cX11_takeClass 56 = .ok (.iconst (-1), 1) := by decide +kernel
theorem dX11_takeClass_57 : decode cX11_takeClass 57 = .ok (.iastore, 1) := by decide +kernel
theorem dX11_takeClass_58 : decode cX11_takeClass 58 = .ok (.aload_n 0, 1) := by decide +kernel
theorem dX11_takeClass_59 : decode cX11_takeClass 59 = .ok (.dup, 1) := by decide +kernel
theorem dX11_takeClass_60 : decode cX11_takeClass 60 = .ok (.getfield 93, 3) := by decide +kernel
theorem dX11_takeClass_63 : decode cX11_takeClass 63 = .ok (.iconst 1, 1) := by decide +kernel
theorem dX11_takeClass_64 : decode cX11_takeClass 64 = .ok (.iadd, 1) := by decide +kernel
theorem dX11_takeClass_65 : decode cX11_takeClass 65 = .ok (.putfield 93, 3) := by decide +kernel
theorem dX11_takeClass_68 : decode cX11_takeClass 68 = .ok (.aload_n 0, 1) := by decide +kernel
theorem dX11_takeClass_69 : decode cX11_takeClass 69 = .ok (.invokevirtual 119, 3) := by decide +kernel
theorem dX11_takeClass_72 : decode cX11_takeClass 72 = .ok (.ifCond .eq 28, 3) := by decide +kernel
theorem dX11_takeClass_75 : decode cX11_takeClass 75 = .ok (.aload_n 0, 1) := by decide +kernel
theorem dX11_takeClass_76 : decode cX11_takeClass 76 = .ok (.getfield 7, 3) := by decide +kernel
theorem dX11_takeClass_79 : decode cX11_takeClass 79 = .ok (.iload_n 1, 1) := by decide +kernel
theorem dX11_takeClass_80 : decode cX11_takeClass 80 = .ok (.iconst 1, 1) := by decide +kernel
theorem dX11_takeClass_81 : decode cX11_takeClass 81 = .ok (.iadd, 1) := by decide +kernel
theorem dX11_takeClass_82 : decode cX11_takeClass 82 = .ok (.aload_n 0, 1) := by decide +kernel
theorem dX11_takeClass_83 : decode cX11_takeClass 83 = .ok (.invokevirtual 96, 3) := by decide +kernel
theorem dX11_takeClass_86 : decode cX11_takeClass 86 = .ok (.bipush 97, 2) := by decide +kernel
theorem dX11_takeClass_88 : decode cX11_takeClass 88 = .ok (.isub, 1) := by decide +kernel
theorem dX11_takeClass_89 : decode cX11_takeClass 89 = .ok (.iastore, 1) := by decide +kernel
theorem dX11_takeClass_90 : decode cX11_takeClass 90 = .ok (.aload_n 0, 1) := by decide +kernel
theorem dX11_takeClass_91 : decode cX11_takeClass 91 = .ok (.dup, 1) := by decide +kernel
theorem dX11_takeClass_92 : decode cX11_takeClass 92 = .ok (.getfield 93, 3) := by decide +kernel
theorem dX11_takeClass_95 : decode cX11_takeClass 95 = .ok (.iconst 1, 1) := by decide +kernel
theorem dX11_takeClass_96 : decode cX11_takeClass 96 = .ok (.iadd, 1) := by decide +kernel
theorem dX11_takeClass_97 : decode cX11_takeClass 97 = .ok (.putfield 93, 3) := by decide +kernel
theorem dX11_takeClass_100 : decode cX11_takeClass 100 = .ok (.aload_n 0, 1) := by decide +kernel
theorem dX11_takeClass_101 : decode cX11_takeClass 101 = .ok (.invokevirtual 119, 3) := by decide +kernel
theorem dX11_takeClass_104 : decode cX11_takeClass 104 = .ok (.ifCond .eq 15, 3) := by decide +kernel
theorem dX11_takeClass_107 : decode cX11_takeClass 107 = .ok (.aload_n 0, 1) := by decide +kernel
theorem dX11_takeClass_108 : decode cX11_takeClass 108 = .ok (.iconst 2, 1) := by decide +kernel
theorem dX11_takeClass_109 : decode cX11_takeClass 109 = .ok (.aload_n 0, 1) := by decide +kernel
theorem dX11_takeClass_110 : decode cX11_takeClass 110 = .ok (.getfield 93, 3) := by decide +kernel
theorem dX11_takeClass_113 : decode cX11_takeClass 113 = .ok (.invokevirtual 115, 3) := by decide +kernel
theorem dX11_takeClass_116 : decode cX11_takeClass 116 = .ok (.goto 25, 3) := by decide +kernel
theorem dX11_takeClass_119 : decode cX11_takeClass 119 = .ok (.aload_n 0, 1) := by decide +kernel
theorem dX11_takeClass_120 : decode cX11_takeClass 120 = .ok (.invokevirtual 96, 3) := by decide +kernel
theorem dX11_takeClass_123 : decode cX11_takeClass 123 = .ok (.bipush 48, 2) := by decide +kernel
theorem dX11_takeClass_125 : decode cX11_takeClass 125 = .ok (.if_icmp .ne 15, 3) := by decide +kernel
theorem dX11_takeClass_128 : decode cX11_takeClass 128 = .ok (.aload_n 0, 1) := by decide +kernel
theorem dX11_takeClass_129 : decode cX11_takeClass 129 = .ok (.iconst 1, 1) := by decide +kernel
theorem dX11_takeClass_130 : decode cX11_takeClass 130 = .ok (.aload_n 0, 1) := by decide +kernel
theorem dX11_takeClass_131 : decode cX11_takeClass 131 = .ok (.getfield 93, 3) := by decide +kernel
theorem dX11_takeClass_134 : decode cX11_takeClass 134 = .ok (.invokevirtual 115, 3) := by decide +kernel
theorem dX11_takeClass_137 : decode cX11_takeClass 137 = .ok (.goto 4, 3) := by decide +kernel
theorem dX11_takeClass_140 : decode cX11_takeClass 140 = .ok (.iconst 0, 1) := by decide +kernel
theorem dX11_takeClass_141 : decode cX11_takeClass 141 = .ok (.ireturn, 1) := by decide +kernel
set_option maxHeartbeats 4000000 in
set_option maxRecDepth 100000 in
theorem kX11_takeClass (l : Launch) (z : Nat) (D : va_G) (cA : Nat → ClassId) (a0 : Nat) (x1 : Int32) (M : Mem) (K : Int32 → Mem → Prop) (h : PX11_takeClass a0 x1 M K) : Met l yX11_takeClass (.code yX11_takeClass cX11_takeClass 2 (some .int) :: gtbl) ({ frames := 2, cells := 0, slots := 0, locals := 45 } : Room) (va_Pc [.ref a0, .int x1] (xB z D cA M)) (va_Qi K (xWd z D cA) (xA z)) 0 0 (xA z) := by
  refine x_met (by decide +kernel) (Nat.le_of_ble_eq_true rfl) (L0 := [(0, .ref a0), (1, .int x1)]) rfl ?_
  intro p e s m args below meth c E hr hlk hnm
  have E : xE RX11 cX11_takeClass 2 D cA p s m args c := E
  have hJ100 : ∀ (M : Mem) (j0 : Nat), JX11_takeClass_100 K M j0 → xG p l e ({ frames := 2, cells := 0, slots := 0, locals := 45 } : Room) s m args below meth c (MQ below (va_Qi K (xWd z D cA) (xA z)) args s 0 0 (xA z)) 2 z D cA M (0) (0) 100 [(0, .ref j0)] [] := by
    intro M j0 h
    refine x_aload_n E dX11_takeClass_100 rfl 0 rfl ?_
    refine x_callVi (T := TX11) (N := 32) (t := 12) (As := []) E mlX11_119 inX11_isLetter seX11_isLetter rfl ⟨by decide, by decide⟩ (tX11_isLetter h) (kX11_isLetter l z D cA j0 M _ h) rfl ⟨rfl, rfl⟩ ⟨Nat.le_of_ble_eq_true rfl, Nat.le_of_ble_eq_true rfl⟩ ⟨(Nat.le_of_ble_eq_true rfl), (Nat.le_of_ble_eq_true rfl)⟩ (Nat.le_of_ble_eq_true rfl) rfl dX11_takeClass_101 (x_pure (fun r17 h => ?_))
    refine x_if_eq (tgt := 119) E dX11_takeClass_104 (by decide) (fun c19 => ?_) (fun c19 => ?_)
    · replace h := xbr_t h c19
      clear c19
      refine x_aload_n E dX11_takeClass_119 rfl 0 rfl ?_
      refine x_callVi (T := TX11) (N := 32) (t := 12) (As := []) E mlX11_96 inX11_byteAt seX11_byteAt rfl ⟨by decide, by decide⟩ (tX11_byteAt h) (kX11_byteAt l z D cA j0 M _ h) rfl ⟨rfl, rfl⟩ ⟨Nat.le_of_ble_eq_true rfl, Nat.le_of_ble_eq_true rfl⟩ ⟨(Nat.le_of_ble_eq_true rfl), (Nat.le_of_ble_eq_true rfl)⟩ (Nat.le_of_ble_eq_true rfl) rfl dX11_takeClass_120 (x_pure (fun r20 h => ?_))
      refine x_bipush (v := (J 48)) E dX11_takeClass_123 (by decide) ?_
      refine x_icmp_ne (tgt := 140) E dX11_takeClass_125 (by decide) (fun c22 => ?_) (fun c22 => ?_)
      · replace h := xbr_f h c22
        clear c22
        refine x_iconst (v := (J 0)) E dX11_takeClass_140 (by decide) ?_
        exact x_iret E hr hlk dX11_takeClass_141 h
      · replace h := xbr_t h c22
        clear c22
        refine x_aload_n E dX11_takeClass_128 rfl 0 rfl ?_
        refine x_iconst (v := (J 1)) E dX11_takeClass_129 (by decide) ?_
        refine x_aload_n E dX11_takeClass_130 rfl 0 rfl ?_
        obtain ⟨hT, v23, hv, h⟩ := h
        refine x_get E flX11_93 dX11_takeClass_131 hT hv ?_
        clear hT hv
        refine x_callVi (T := TX11) (N := 32) (t := 12) (As := [.int (J 1), .int v23]) E mlX11_115 inX11_fails seX11_fails rfl ⟨by decide, by decide⟩ (tX11_fails h) (kX11_fails l z D cA j0 (J 1) v23 M _ h) rfl ⟨rfl, rfl⟩ ⟨Nat.le_of_ble_eq_true rfl, Nat.le_of_ble_eq_true rfl⟩ ⟨(Nat.le_of_ble_eq_true rfl), (Nat.le_of_ble_eq_true rfl)⟩ (Nat.le_of_ble_eq_true rfl) rfl dX11_takeClass_134 (fun r24 M25 h => ?_)
        refine x_goto (tgt := 141) E dX11_takeClass_137 (by decide) ?_
        exact x_iret E hr hlk dX11_takeClass_141 h
    · replace h := xbr_f h c19
      clear c19
      refine x_aload_n E dX11_takeClass_107 rfl 0 rfl ?_
      refine x_iconst (v := (J 2)) E dX11_takeClass_108 (by decide) ?_
      refine x_aload_n E dX11_takeClass_109 rfl 0 rfl ?_
      obtain ⟨hT, v26, hv, h⟩ := h
      refine x_get E flX11_93 dX11_takeClass_110 hT hv ?_
      clear hT hv
      refine x_callVi (T := TX11) (N := 32) (t := 12) (As := [.int (J 2), .int v26]) E mlX11_115 inX11_fails seX11_fails rfl ⟨by decide, by decide⟩ (tX11_fails h) (kX11_fails l z D cA j0 (J 2) v26 M _ h) rfl ⟨rfl, rfl⟩ ⟨Nat.le_of_ble_eq_true rfl, Nat.le_of_ble_eq_true rfl⟩ ⟨(Nat.le_of_ble_eq_true rfl), (Nat.le_of_ble_eq_true rfl)⟩ (Nat.le_of_ble_eq_true rfl) rfl dX11_takeClass_113 (fun r27 M28 h => ?_)
      refine x_goto (tgt := 141) E dX11_takeClass_116 (by decide) ?_
      exact x_iret E hr hlk dX11_takeClass_141 h
  replace h := h.2
  refine x_aload_n E dX11_takeClass_0 rfl 0 rfl ?_
  refine x_callVi (T := TX11) (N := 32) (t := 12) (As := []) E mlX11_119 inX11_isLetter seX11_isLetter rfl ⟨by decide, by decide⟩ (tX11_isLetter h) (kX11_isLetter l z D cA a0 M _ h) rfl ⟨rfl, rfl⟩ ⟨Nat.le_of_ble_eq_true rfl, Nat.le_of_ble_eq_true rfl⟩ ⟨(Nat.le_of_ble_eq_true rfl), (Nat.le_of_ble_eq_true rfl)⟩ (Nat.le_of_ble_eq_true rfl) rfl dX11_takeClass_1 (x_pure (fun r1 h => ?_))
  refine x_if_ne (tgt := 17) E dX11_takeClass_4 (by decide) (fun c3 => ?_) (fun c3 => ?_)
  · replace h := xbr_f h c3
    clear c3
    refine x_aload_n E dX11_takeClass_17 rfl 0 rfl ?_
    obtain ⟨hT, v4, hv, h⟩ := h
    refine x_get E flX11_122 dX11_takeClass_18 hT hv ?_
    clear hT hv
    refine x_bipush (v := (J 24)) E dX11_takeClass_21 (by decide) ?_
    refine x_icmp_ne (tgt := 36) E dX11_takeClass_23 (by decide) (fun c5 => ?_) (fun c5 => ?_)
    · replace h := xbr_f h c5
      clear c5
      refine x_aload_n E dX11_takeClass_36 rfl 0 rfl ?_
      obtain ⟨hT, q6, hv, h⟩ := h
      refine x_get E flX11_7 dX11_takeClass_37 hT hv ?_
      clear hT hv
      refine x_iload_n E dX11_takeClass_40 rfl 1 rfl ?_
      refine x_aload_n E dX11_takeClass_41 rfl 0 rfl ?_
      refine x_callVi (T := TX11) (N := 32) (t := 12) (As := []) E mlX11_96 inX11_byteAt seX11_byteAt rfl ⟨by decide, by decide⟩ (tX11_byteAt h) (kX11_byteAt l z D cA a0 M _ h) rfl ⟨rfl, rfl⟩ ⟨Nat.le_of_ble_eq_true rfl, Nat.le_of_ble_eq_true rfl⟩ ⟨(Nat.le_of_ble_eq_true rfl), (Nat.le_of_ble_eq_true rfl)⟩ (Nat.le_of_ble_eq_true rfl) rfl dX11_takeClass_42 (x_pure (fun r7 h => ?_))
      refine x_bipush (v := (J 97)) E dX11_takeClass_45 (by decide) ?_
      refine x_isub E dX11_takeClass_47 ?_
      obtain ⟨hT, hi, h⟩ := h
      refine x_iast E dX11_takeClass_48 hT hi (fun M9 eM9 => ?_)
      replace h := h M9 eM9
      clear hT hi eM9
      refine x_aload_n E dX11_takeClass_49 rfl 0 rfl ?_
      obtain ⟨hT, q10, hv, h⟩ := h
      refine x_get E flX11_7 dX11_takeClass_50 hT hv ?_
      clear hT hv
      refine x_iload_n E dX11_takeClass_53 rfl 1 rfl ?_
      refine x_iconst (v := (J 1)) E dX11_takeClass_54 (by decide) ?_
      refine x_iadd E dX11_takeClass_55 ?_
      refine x_iconst (v := (J (-1))) E dX11_takeClass_56 (by decide) ?_
      obtain ⟨hT, hi, h⟩ := h
      refine x_iast E dX11_takeClass_57 hT hi (fun M11 eM11 => ?_)
      replace h := h M11 eM11
      clear hT hi eM11
      refine x_aload_n E dX11_takeClass_58 rfl 0 rfl ?_
      refine x_dup E dX11_takeClass_59 rfl ?_
      obtain ⟨hT, v12, hv, h⟩ := h
      refine x_get E flX11_93 dX11_takeClass_60 hT hv ?_
      clear hT hv
      refine x_iconst (v := (J 1)) E dX11_takeClass_63 (by decide) ?_
      refine x_iadd E dX11_takeClass_64 ?_
      obtain ⟨hT, h⟩ := h
      refine x_put E flX11_93 ⟨tyX11_ok, nmX11, rfl⟩ (by decide +kernel) rfl rfl dX11_takeClass_65 hT (fun M13 eM13 => ?_)
      replace h := h M13 eM13
      clear hT eM13
      refine x_aload_n E dX11_takeClass_68 rfl 0 rfl ?_
      refine x_callVi (T := TX11) (N := 32) (t := 12) (As := []) E mlX11_119 inX11_isLetter seX11_isLetter rfl ⟨by decide, by decide⟩ (tX11_isLetter h) (kX11_isLetter l z D cA a0 M13 _ h) rfl ⟨rfl, rfl⟩ ⟨Nat.le_of_ble_eq_true rfl, Nat.le_of_ble_eq_true rfl⟩ ⟨(Nat.le_of_ble_eq_true rfl), (Nat.le_of_ble_eq_true rfl)⟩ (Nat.le_of_ble_eq_true rfl) rfl dX11_takeClass_69 (x_pure (fun r14 h => ?_))
      refine x_if_eq (tgt := 100) E dX11_takeClass_72 (by decide) (fun c16 => ?_) (fun c16 => ?_)
      · replace h := xbr_t h c16
        clear c16
        refine x_sub (L' := [(0, .ref a0)]) [0] rfl ?_
        exact hJ100 M13 a0 h
      · replace h := xbr_f h c16
        clear c16
        refine x_aload_n E dX11_takeClass_75 rfl 0 rfl ?_
        obtain ⟨hT, q29, hv, h⟩ := h
        refine x_get E flX11_7 dX11_takeClass_76 hT hv ?_
        clear hT hv
        refine x_iload_n E dX11_takeClass_79 rfl 1 rfl ?_
        refine x_iconst (v := (J 1)) E dX11_takeClass_80 (by decide) ?_
        refine x_iadd E dX11_takeClass_81 ?_
        refine x_aload_n E dX11_takeClass_82 rfl 0 rfl ?_
        refine x_callVi (T := TX11) (N := 32) (t := 12) (As := []) E mlX11_96 inX11_byteAt seX11_byteAt rfl ⟨by decide, by decide⟩ (tX11_byteAt h) (kX11_byteAt l z D cA a0 M13 _ h) rfl ⟨rfl, rfl⟩ ⟨Nat.le_of_ble_eq_true rfl, Nat.le_of_ble_eq_true rfl⟩ ⟨(Nat.le_of_ble_eq_true rfl), (Nat.le_of_ble_eq_true rfl)⟩ (Nat.le_of_ble_eq_true rfl) rfl dX11_takeClass_83 (x_pure (fun r30 h => ?_))
        refine x_bipush (v := (J 97)) E dX11_takeClass_86 (by decide) ?_
        refine x_isub E dX11_takeClass_88 ?_
        obtain ⟨hT, hi, h⟩ := h
        refine x_iast E dX11_takeClass_89 hT hi (fun M32 eM32 => ?_)
        replace h := h M32 eM32
        clear hT hi eM32
        refine x_aload_n E dX11_takeClass_90 rfl 0 rfl ?_
        refine x_dup E dX11_takeClass_91 rfl ?_
        obtain ⟨hT, v33, hv, h⟩ := h
        refine x_get E flX11_93 dX11_takeClass_92 hT hv ?_
        clear hT hv
        refine x_iconst (v := (J 1)) E dX11_takeClass_95 (by decide) ?_
        refine x_iadd E dX11_takeClass_96 ?_
        obtain ⟨hT, h⟩ := h
        refine x_put E flX11_93 ⟨tyX11_ok, nmX11, rfl⟩ (by decide +kernel) rfl rfl dX11_takeClass_97 hT (fun M34 eM34 => ?_)
        replace h := h M34 eM34
        clear hT eM34
        refine x_sub (L' := [(0, .ref a0)]) [0] rfl ?_
        exact hJ100 M34 a0 h
    · replace h := xbr_t h c5
      clear c5
      refine x_aload_n E dX11_takeClass_26 rfl 0 rfl ?_
      refine x_iconst (v := (J 4)) E dX11_takeClass_27 (by decide) ?_
      refine x_aload_n E dX11_takeClass_28 rfl 0 rfl ?_
      obtain ⟨hT, v35, hv, h⟩ := h
      refine x_get E flX11_93 dX11_takeClass_29 hT hv ?_
      clear hT hv
      refine x_callVi (T := TX11) (N := 32) (t := 12) (As := [.int (J 4), .int v35]) E mlX11_115 inX11_fails seX11_fails rfl ⟨by decide, by decide⟩ (tX11_fails h) (kX11_fails l z D cA a0 (J 4) v35 M _ h) rfl ⟨rfl, rfl⟩ ⟨Nat.le_of_ble_eq_true rfl, Nat.le_of_ble_eq_true rfl⟩ ⟨(Nat.le_of_ble_eq_true rfl), (Nat.le_of_ble_eq_true rfl)⟩ (Nat.le_of_ble_eq_true rfl) rfl dX11_takeClass_32 (fun r36 M37 h => ?_)
      exact x_iret E hr hlk dX11_takeClass_35 h
  · replace h := xbr_t h c3
    clear c3
    refine x_aload_n E dX11_takeClass_7 rfl 0 rfl ?_
    refine x_iconst (v := (J 1)) E dX11_takeClass_8 (by decide) ?_
    refine x_aload_n E dX11_takeClass_9 rfl 0 rfl ?_
    obtain ⟨hT, v38, hv, h⟩ := h
    refine x_get E flX11_93 dX11_takeClass_10 hT hv ?_
    clear hT hv
    refine x_callVi (T := TX11) (N := 32) (t := 12) (As := [.int (J 1), .int v38]) E mlX11_115 inX11_fails seX11_fails rfl ⟨by decide, by decide⟩ (tX11_fails h) (kX11_fails l z D cA a0 (J 1) v38 M _ h) rfl ⟨rfl, rfl⟩ ⟨Nat.le_of_ble_eq_true rfl, Nat.le_of_ble_eq_true rfl⟩ ⟨(Nat.le_of_ble_eq_true rfl), (Nat.le_of_ble_eq_true rfl)⟩ (Nat.le_of_ble_eq_true rfl) rfl dX11_takeClass_13 (fun r39 M40 h => ?_)
    exact x_iret E hr hlk dX11_takeClass_16 h
theorem dX11_takeCutter_0 : decode cX11_takeCutter 0 = .ok (.aload_n 0, 1) := by decide +kernel
theorem dX11_takeCutter_1 : decode cX11_takeCutter 1 = .ok (.invokevirtual 119, 3) := by decide +kernel
theorem dX11_takeCutter_4 : decode cX11_takeCutter 4 = .ok (.ifCond .ne 13, 3) := by decide +kernel
theorem dX11_takeCutter_7 : decode cX11_takeCutter 7 = .ok (.aload_n 0, 1) := by decide +kernel
theorem dX11_takeCutter_8 : decode cX11_takeCutter 8 = .ok (.iconst 1, 1) := by decide +kernel
theorem dX11_takeCutter_9 : decode cX11_takeCutter 9 = .ok (.aload_n 0, 1) := by decide +kernel
theorem dX11_takeCutter_10 : decode cX11_takeCutter 10 = .ok (.getfield 93, 3) := by decide +kernel
theorem dX11_takeCutter_13 : decode cX11_takeCutter 13 = .ok (.invokevirtual 115, 3) := by decide +kernel
theorem dX11_takeCutter_16 : decode cX11_takeCutter 16 = .ok (.ireturn, 1) := by decide +kernel
theorem dX11_takeCutter_17 : decode cX11_takeCutter 17 = .ok (.aload_n 0, 1) := by decide +kernel
theorem dX11_takeCutter_18 : decode cX11_takeCutter 18 = .ok (.getfield 7, 3) := by decide +kernel
theorem dX11_takeCutter_21 : decode cX11_takeCutter 21 = .ok (.iload_n 1, 1) := by decide +kernel
theorem dX11_takeCutter_22 : decode cX11_takeCutter 22 = .ok (.bipush 10, 2) := by decide +kernel
theorem dX11_takeCutter_24 : decode cX11_takeCutter 24 = .ok (.iadd, 1) := by decide +kernel
theorem dX11_takeCutter_25 : decode cX11_takeCutter 25 = .ok (.aload_n 0, 1) := by decide +kernel
theorem dX11_takeCutter_26 : decode cX11_takeCutter 26 = .ok (.invokevirtual 96, 3) := by decide +kernel
theorem dX11_takeCutter_29 : decode cX11_takeCutter 29 = .ok (.bipush 97, 2) := by decide +kernel
theorem dX11_takeCutter_31 : decode cX11_takeCutter 31 = .ok (.isub, 1) := by decide +kernel
theorem dX11_takeCutter_32 : decode cX11_takeCutter 32 = .ok (.iastore, 1) := by decide +kernel
theorem dX11_takeCutter_33 : decode cX11_takeCutter 33 = .ok (.aload_n 0, 1) := by decide +kernel
theorem dX11_takeCutter_34 : decode cX11_takeCutter 34 = .ok (.dup, 1) := by decide +kernel
theorem dX11_takeCutter_35 : decode cX11_takeCutter 35 = .ok (.getfield 93, 3) := by decide +kernel
theorem dX11_takeCutter_38 : decode cX11_takeCutter 38 = .ok (.iconst 1, 1) := by decide +kernel
theorem dX11_takeCutter_39 : decode cX11_takeCutter 39 = .ok (.iadd, 1) := by decide +kernel
theorem dX11_takeCutter_40 : decode cX11_takeCutter 40 = .ok (.putfield 93, 3) := by decide +kernel
theorem dX11_takeCutter_43 : decode cX11_takeCutter 43 = .ok (.aload_n 0, 1) := by decide +kernel
theorem dX11_takeCutter_44 : decode cX11_takeCutter 44 = .ok (.iload_n 1, 1) := by decide +kernel
theorem dX11_takeCutter_45 : decode cX11_takeCutter 45 = .ok (.bipush 11, 2) := by decide +kernel
theorem dX11_takeCutter_47 : decode cX11_takeCutter 47 = .ok (.iadd, 1) := by decide +kernel
theorem dX11_takeCutter_48 : decode cX11_takeCutter 48 = .ok (.invokevirtual 125, 3) := by decide +kernel
theorem dX11_takeCutter_51 : decode cX11_takeCutter 51 = .ok (.istore_n 2, 1) := by decide +kernel
theorem dX11_takeCutter_52 : decode cX11_takeCutter 52 = .ok (.aload_n 0, 1) := by decide +kernel
theorem dX11_takeCutter_53 : decode cX11_takeCutter 53 = .ok (.getfield 19, 3) := by decide +kernel
theorem dX11_takeCutter_56 : decode cX11_takeCutter 56 = .ok (.aload_n 0, 1) := by decide +kernel
theorem dX11_takeCutter_57 : decode cX11_takeCutter 57 = .ok (.getfield 122, 3) := by decide +kernel
theorem dX11_takeCutter_60 : decode cX11_takeCutter 60 = .ok (.aload_n 0, 1) := by decide +kernel
theorem dX11_takeCutter_61 : decode cX11_takeCutter 61 = .ok (.getfield 108, 3) := by decide +kernel
theorem dX11_takeCutter_64 : decode cX11_takeCutter 64 = .ok (.iastore, 1) := by decide +kernel
theorem dX11_takeCutter_65 : decode cX11_takeCutter 65 = .ok (.iload_n 2, 1) := by decide +kernel
theorem dX11_takeCutter_66 : decode cX11_takeCutter 66 = .ok (.ireturn, 1) := by decide +kernel
set_option maxHeartbeats 4000000 in
set_option maxRecDepth 100000 in
theorem kX11_takeCutter (l : Launch) (z : Nat) (D : va_G) (cA : Nat → ClassId) (a0 : Nat) (x1 : Int32) (M : Mem) (K : Int32 → Mem → Prop) (h : PX11_takeCutter a0 x1 M K) : Met l yX11_takeCutter (.code yX11_takeCutter cX11_takeCutter 3 (some .int) :: gtbl) ({ frames := 3, cells := 0, slots := 0, locals := 66 } : Room) (va_Pc [.ref a0, .int x1] (xB z D cA M)) (va_Qi K (xWd z D cA) (xA z)) 0 0 (xA z) := by
  refine x_met (by decide +kernel) (Nat.le_of_ble_eq_true rfl) (L0 := [(0, .ref a0), (1, .int x1)]) rfl ?_
  intro p e s m args below meth c E hr hlk hnm
  have E : xE RX11 cX11_takeCutter 3 D cA p s m args c := E
  replace h := h.2
  refine x_aload_n E dX11_takeCutter_0 rfl 0 rfl ?_
  refine x_callVi (T := TX11) (N := 32) (t := 12) (As := []) E mlX11_119 inX11_isLetter seX11_isLetter rfl ⟨by decide, by decide⟩ (tX11_isLetter h) (kX11_isLetter l z D cA a0 M _ h) rfl ⟨rfl, rfl⟩ ⟨Nat.le_of_ble_eq_true rfl, Nat.le_of_ble_eq_true rfl⟩ ⟨(Nat.le_of_ble_eq_true rfl), (Nat.le_of_ble_eq_true rfl)⟩ (Nat.le_of_ble_eq_true rfl) rfl dX11_takeCutter_1 (x_pure (fun r1 h => ?_))
  refine x_if_ne (tgt := 17) E dX11_takeCutter_4 (by decide) (fun c3 => ?_) (fun c3 => ?_)
  · replace h := xbr_f h c3
    clear c3
    refine x_aload_n E dX11_takeCutter_17 rfl 0 rfl ?_
    obtain ⟨hT, q4, hv, h⟩ := h
    refine x_get E flX11_7 dX11_takeCutter_18 hT hv ?_
    clear hT hv
    refine x_iload_n E dX11_takeCutter_21 rfl 1 rfl ?_
    refine x_bipush (v := (J 10)) E dX11_takeCutter_22 (by decide) ?_
    refine x_iadd E dX11_takeCutter_24 ?_
    refine x_aload_n E dX11_takeCutter_25 rfl 0 rfl ?_
    refine x_callVi (T := TX11) (N := 32) (t := 12) (As := []) E mlX11_96 inX11_byteAt seX11_byteAt rfl ⟨by decide, by decide⟩ (tX11_byteAt h) (kX11_byteAt l z D cA a0 M _ h) rfl ⟨rfl, rfl⟩ ⟨Nat.le_of_ble_eq_true rfl, Nat.le_of_ble_eq_true rfl⟩ ⟨(Nat.le_of_ble_eq_true rfl), (Nat.le_of_ble_eq_true rfl)⟩ (Nat.le_of_ble_eq_true rfl) rfl dX11_takeCutter_26 (x_pure (fun r5 h => ?_))
    refine x_bipush (v := (J 97)) E dX11_takeCutter_29 (by decide) ?_
    refine x_isub E dX11_takeCutter_31 ?_
    obtain ⟨hT, hi, h⟩ := h
    refine x_iast E dX11_takeCutter_32 hT hi (fun M7 eM7 => ?_)
    replace h := h M7 eM7
    clear hT hi eM7
    refine x_aload_n E dX11_takeCutter_33 rfl 0 rfl ?_
    refine x_dup E dX11_takeCutter_34 rfl ?_
    obtain ⟨hT, v8, hv, h⟩ := h
    refine x_get E flX11_93 dX11_takeCutter_35 hT hv ?_
    clear hT hv
    refine x_iconst (v := (J 1)) E dX11_takeCutter_38 (by decide) ?_
    refine x_iadd E dX11_takeCutter_39 ?_
    obtain ⟨hT, h⟩ := h
    refine x_put E flX11_93 ⟨tyX11_ok, nmX11, rfl⟩ (by decide +kernel) rfl rfl dX11_takeCutter_40 hT (fun M9 eM9 => ?_)
    replace h := h M9 eM9
    clear hT eM9
    refine x_aload_n E dX11_takeCutter_43 rfl 0 rfl ?_
    refine x_iload_n E dX11_takeCutter_44 rfl 1 rfl ?_
    refine x_bipush (v := (J 11)) E dX11_takeCutter_45 (by decide) ?_
    refine x_iadd E dX11_takeCutter_47 ?_
    refine x_callVi (T := TX11) (N := 32) (t := 12) (As := [.int (x1 + (J 11))]) E mlX11_125 inX11_takeFigures seX11_takeFigures rfl ⟨by decide, by decide⟩ (tX11_takeFigures h) (kX11_takeFigures l z D cA a0 (x1 + (J 11)) M9 _ h) rfl ⟨rfl, rfl⟩ ⟨Nat.le_of_ble_eq_true rfl, Nat.le_of_ble_eq_true rfl⟩ ⟨(Nat.le_of_ble_eq_true rfl), (Nat.le_of_ble_eq_true rfl)⟩ (Nat.le_of_ble_eq_true rfl) rfl dX11_takeCutter_48 (fun r10 M11 h => ?_)
    refine x_istore_n (L' := [(2, .int r10), (0, .ref a0), (1, .int x1)]) E dX11_takeCutter_51 rfl (by decide) rfl ?_
    refine x_aload_n E dX11_takeCutter_52 rfl 1 rfl ?_
    obtain ⟨hT, q12, hv, h⟩ := h
    refine x_get E flX11_19 dX11_takeCutter_53 hT hv ?_
    clear hT hv
    refine x_aload_n E dX11_takeCutter_56 rfl 1 rfl ?_
    obtain ⟨hT, v13, hv, h⟩ := h
    refine x_get E flX11_122 dX11_takeCutter_57 hT hv ?_
    clear hT hv
    refine x_aload_n E dX11_takeCutter_60 rfl 1 rfl ?_
    obtain ⟨hT, v14, hv, h⟩ := h
    refine x_get E flX11_108 dX11_takeCutter_61 hT hv ?_
    clear hT hv
    obtain ⟨hT, hi, h⟩ := h
    refine x_iast E dX11_takeCutter_64 hT hi (fun M15 eM15 => ?_)
    replace h := h M15 eM15
    clear hT hi eM15
    refine x_iload_n E dX11_takeCutter_65 rfl 0 rfl ?_
    exact x_iret E hr hlk dX11_takeCutter_66 h
  · replace h := xbr_t h c3
    clear c3
    refine x_aload_n E dX11_takeCutter_7 rfl 0 rfl ?_
    refine x_iconst (v := (J 1)) E dX11_takeCutter_8 (by decide) ?_
    refine x_aload_n E dX11_takeCutter_9 rfl 0 rfl ?_
    obtain ⟨hT, v16, hv, h⟩ := h
    refine x_get E flX11_93 dX11_takeCutter_10 hT hv ?_
    clear hT hv
    refine x_callVi (T := TX11) (N := 32) (t := 12) (As := [.int (J 1), .int v16]) E mlX11_115 inX11_fails seX11_fails rfl ⟨by decide, by decide⟩ (tX11_fails h) (kX11_fails l z D cA a0 (J 1) v16 M _ h) rfl ⟨rfl, rfl⟩ ⟨Nat.le_of_ble_eq_true rfl, Nat.le_of_ble_eq_true rfl⟩ ⟨(Nat.le_of_ble_eq_true rfl), (Nat.le_of_ble_eq_true rfl)⟩ (Nat.le_of_ble_eq_true rfl) rfl dX11_takeCutter_13 (fun r17 M18 h => ?_)
    exact x_iret E hr hlk dX11_takeCutter_16 h
theorem dX11_takePoints_0 : decode cX11_takePoints 0 = .ok (.aload_n 0, 1) := by decide +kernel
theorem dX11_takePoints_1 : decode cX11_takePoints 1 = .ok (.getfield 16, 3) := by decide +kernel
theorem dX11_takePoints_4 : decode cX11_takePoints 4 = .ok (.aload_n 0, 1) := by decide +kernel
theorem dX11_takePoints_5 : decode cX11_takePoints 5 = .ok (.getfield 122, 3) := by decide +kernel
theorem dX11_takePoints_8 : decode cX11_takePoints 8 = .ok (.iconst 0, 1) := by decide +kernel
theorem dX11_takePoints_9 : decode cX11_takePoints 9 = .ok (.iastore, 1) := by decide +kernel
theorem dX11_takePoints_10 : decode cX11_takePoints 10 = .ok (.aload_n 0, 1) := by decide +kernel
theorem dX11_takePoints_11 : decode cX11_takePoints 11 = .ok (.getfield 19, 3) := by decide +kernel
theorem dX11_takePoints_14 : decode cX11_takePoints 14 = .ok (.aload_n 0, 1) := by decide +kernel
theorem dX11_takePoints_15 : decode cX11_takePoints 15 = .ok (.getfield 122, 3) := by decide +kernel
theorem dX11_takePoints_18 : decode cX11_takePoints 18 = .ok (.iconst 0, 1) := by decide +kernel
theorem dX11_takePoints_19 : decode cX11_takePoints 19 = .ok (.iastore, 1) := by decide +kernel
theorem dX11_takePoints_20 : decode cX11_takePoints 20 = .ok (.aload_n 0, 1) := by decide +kernel
theorem dX11_takePoints_21 : decode cX11_takePoints 21 = .ok (.getfield 7, 3) := by decide +kernel
theorem dX11_takePoints_24 : decode cX11_takePoints 24 = .ok (.iload_n 1, 1) := by decide +kernel
theorem dX11_takePoints_25 : decode cX11_takePoints 25 = .ok (.bipush 10, 2) := by decide +kernel
theorem dX11_takePoints_27 : decode cX11_takePoints 27 = .ok (.iadd, 1) := by decide +kernel
theorem dX11_takePoints_28 : decode cX11_takePoints 28 = .ok (.iconst (-1), 1) := by decide +kernel
theorem dX11_takePoints_29 : decode cX11_takePoints 29 = .ok (.iastore, 1) := by decide +kernel
theorem dX11_takePoints_30 : decode cX11_takePoints 30 = .ok (.iconst 0, 1) := by decide +kernel
theorem dX11_takePoints_31 : decode cX11_takePoints 31 = .ok (.istore_n 2, 1) := by decide +kernel
theorem dX11_takePoints_32 : decode cX11_takePoints 32 = .ok (.aload_n 0, 1) := by decide +kernel
theorem dX11_takePoints_33 : decode cX11_takePoints 33 = .ok (.invokevirtual 96, 3) := by decide +kernel
theorem dX11_takePoints_36 : decode cX11_takePoints 36 = .ok (.bipush 46, 2) := by decide +kernel
theorem dX11_takePoints_38 : decode cX11_takePoints 38 = .ok (.if_icmp .ne 103, 3) := by decide +kernel
theorem dX11_takePoints_41 : decode cX11_takePoints 41 = .ok (.aload_n 0, 1) := by decide +kernel
theorem dX11_takePoints_42 : decode cX11_takePoints 42 = .ok (.dup, 1) := by decide +kernel
theorem dX11_takePoints_43 : decode cX11_takePoints 43 = .ok (.getfield 93, 3) := by decide +kernel
theorem dX11_takePoints_46 : decode cX11_takePoints 46 = .ok (.iconst 1, 1) := by decide +kernel
theorem dX11_takePoints_47 : decode cX11_takePoints 47 = .ok (.iadd, 1) := by decide +kernel
theorem dX11_takePoints_48 : decode cX11_takePoints 48 = .ok (.putfield 93, 3) := by decide +kernel
theorem dX11_takePoints_51 : decode cX11_takePoints 51 = .ok (.aload_n 0, 1) := by decide +kernel
theorem dX11_takePoints_52 : decode cX11_takePoints 52 = .ok (.invokevirtual 111, 3) := by decide +kernel
theorem dX11_takePoints_55 : decode cX11_takePoints 55 = .ok (.ifCond .eq 80, 3) := by decide +kernel
theorem dX11_takePoints_58 : decode cX11_takePoints 58 = .ok (.aload_n 0, 1) := by decide +kernel
theorem dX11_takePoints_59 : decode cX11_takePoints 59 = .ok (.iload_n 1, 1) := by decide +kernel
theorem dX11_takePoints_60 : decode cX11_takePoints 60 = .ok (.bipush 6, 2) := by decide +kernel
theorem dX11_takePoints_62 : decode cX11_takePoints 62 = .ok (.iadd, 1) := by decide +kernel
theorem dX11_takePoints_63 : decode cX11_takePoints 63 = .ok (.invokevirtual 125, 3) := by decide +kernel
theorem dX11_takePoints_66 : decode cX11_takePoints 66 = .ok (.istore_n 2, 1) := by decide +kernel
theorem dX11_takePoints_67 : decode cX11_takePoints 67 = .ok (.aload_n 0, 1) := by decide +kernel
theorem dX11_takePoints_68 : decode cX11_takePoints 68 = .ok (.getfield 16, 3) := by decide +kernel
theorem dX11_takePoints_71 : decode cX11_takePoints 71 = .ok (.aload_n 0, 1) := by decide +kernel
theorem dX11_takePoints_72 : decode cX11_takePoints 72 = .ok (.getfield 122, 3) := by decide +kernel
theorem dX11_takePoints_75 : decode cX11_takePoints 75 = .ok (.aload_n 0, 1) := by decide +kernel
theorem dX11_takePoints_76 : decode cX11_takePoints 76 = .ok (.getfield 108, 3) := by decide +kernel
theorem dX11_takePoints_79 : decode cX11_takePoints 79 = .ok (.iastore, 1) := by decide +kernel
theorem dX11_takePoints_80 : decode cX11_takePoints 80 = .ok (.iload_n 2, 1) := by decide +kernel
theorem dX11_takePoints_81 : decode cX11_takePoints 81 = .ok (.ifCond .ne 16, 3) := by decide +kernel
theorem dX11_takePoints_84 : decode cX11_takePoints 84 = .ok (.aload_n 0, 1) := by decide +kernel
theorem dX11_takePoints_85 : decode cX11_takePoints 85 = .ok (.invokevirtual 96, 3) := by decide +kernel
theorem dX11_takePoints_88 : decode cX11_takePoints 88 = .ok (.bipush 46, 2) := by decide +kernel
theorem dX11_takePoints_90 : decode cX11_takePoints 90 = .ok (.if_icmp .ne 7, 3) := by decide +kernel
theorem dX11_takePoints_93 : decode cX11_takePoints 93 = .ok (.iconst 1, 1) := by decide +kernel
theorem dX11_takePoints_94 : decode cX11_takePoints 94 = .ok (.goto 4, 3) := by decide +kernel
theorem dX11_takePoints_97 : decode cX11_takePoints 97 = .ok (.iconst 0, 1) := by decide +kernel
theorem dX11_takePoints_98 : decode cX11_takePoints 98 = .ok (.istore_n 3, 1) := by decide +kernel
theorem dX11_takePoints_99 : decode cX11_takePoints 99 = .ok (.aload_n 0, 1) := by decide +kernel
theorem dX11_takePoints_100 : decode cX11_takePoints 100 = .ok (.dup, 1) := by decide +kernel
theorem dX11_takePoints_101 : decode cX11_takePoints 101 = .ok (.getfield 93, 3) := by decide +kernel
theorem dX11_takePoints_104 : decode cX11_takePoints 104 = .ok (.iload_n 3, 1) := by decide +kernel
theorem dX11_takePoints_105 : decode cX11_takePoints 105 = .ok (.ifCond .eq 7, 3) := by decide +kernel
theorem dX11_takePoints_108 : decode cX11_takePoints 108 = .ok (.iconst 1, 1) := by decide +kernel
theorem dX11_takePoints_109 : decode cX11_takePoints 109 = .ok (.goto 4, 3) := by decide +kernel
theorem dX11_takePoints_112 : decode cX11_takePoints 112 = .ok (.iconst 0, 1) := by decide +kernel
theorem dX11_takePoints_113 : decode cX11_takePoints 113 = .ok (.iadd, 1) := by decide +kernel
theorem dX11_takePoints_114 : decode cX11_takePoints 114 = .ok (.putfield 93, 3) := by decide +kernel
theorem dX11_takePoints_117 : decode cX11_takePoints 117 = .ok (.iload_n 2, 1) := by decide +kernel
theorem dX11_takePoints_118 : decode cX11_takePoints 118 = .ok (.ifCond .gt 7, 3) := by decide +kernel
theorem dX11_takePoints_121 : decode cX11_takePoints 121 = .ok (.iload_n 3, 1) := by decide +kernel
theorem dX11_takePoints_122 : decode cX11_takePoints 122 = .ok (.ifCond .ne 7, 3) := by decide +kernel
theorem dX11_takePoints_125 : decode cX11_takePoints 125 = .ok (.iload_n 2, 1) := by decide +kernel
theorem dX11_takePoints_126 : decode cX11_takePoints 126 = .ok (.goto 8, 3) := by decide +kernel
theorem dX11_takePoints_129 : decode cX11_takePoints 129 = .ok (.aload_n 0, 1) := by decide +kernel
theorem dX11_takePoints_130 : decode cX11_takePoints 130 = .ok (.iload_n 1, 1) := by decide +kernel
theorem dX11_takePoints_131 : decode cX11_takePoints 131 = .ok (.invokevirtual 129, 3) := by decide +kernel
theorem dX11_takePoints_134 : decode cX11_takePoints 134 = .ok (.ireturn, 1) := by decide +kernel
theorem dX11_takePoints_135 : decode cX11_takePoints 135 = .ok (.aload_n 0, 1) := by decide +kernel
theorem dX11_takePoints_136 : decode cX11_takePoints 136 = .ok (.iload_n 1, 1) := by decide +kernel
theorem dX11_takePoints_137 : decode cX11_takePoints 137 = .ok (.invokevirtual 129, 3) := by decide +kernel
theorem dX11_takePoints_140 : decode cX11_takePoints 140 = .ok (.istore_n 2, 1) := by decide +kernel
theorem dX11_takePoints_141 : decode cX11_takePoints 141 = .ok (.iload_n 2, 1) := by decide +kernel
theorem dX11_takePoints_142 : decode cX11_takePoints 142 = .ok (.ireturn, 1) := by decide +kernel
set_option maxHeartbeats 4000000 in
set_option maxRecDepth 100000 in
theorem kX11_takePoints (l : Launch) (z : Nat) (D : va_G) (cA : Nat → ClassId) (a0 : Nat) (x1 : Int32) (M : Mem) (K : Int32 → Mem → Prop) (h : PX11_takePoints a0 x1 M K) : Met l yX11_takePoints (.code yX11_takePoints cX11_takePoints 4 (some .int) :: gtbl) ({ frames := 4, cells := 0, slots := 0, locals := 88 } : Room) (va_Pc [.ref a0, .int x1] (xB z D cA M)) (va_Qi K (xWd z D cA) (xA z)) 0 0 (xA z) := by
  refine x_met (by decide +kernel) (Nat.le_of_ble_eq_true rfl) (L0 := [(0, .ref a0), (1, .int x1)]) rfl ?_
  intro p e s m args below meth c E hr hlk hnm
  have E : xE RX11 cX11_takePoints 4 D cA p s m args c := E
  have hJ113 : ∀ (M : Mem) (j0 : Nat) (j1 : Int32) (j2 : Int32) (j3 : Int32) (s0 : Int32) (s1 : Int32) (s2 : Nat), JX11_takePoints_113 K M j0 j1 j2 j3 s0 s1 s2 → xG p l e ({ frames := 4, cells := 0, slots := 0, locals := 88 } : Room) s m args below meth c (MQ below (va_Qi K (xWd z D cA) (xA z)) args s 0 0 (xA z)) 4 z D cA M (0) (0) 113 [(0, .ref j0), (1, .int j1), (2, .int j2), (3, .int j3)] [.int s0, .int s1, .ref s2] := by
    intro M j0 j1 j2 j3 s0 s1 s2 h
    refine x_iadd E dX11_takePoints_113 ?_
    obtain ⟨hT, h⟩ := h
    refine x_put E flX11_93 ⟨tyX11_ok, nmX11, rfl⟩ (by decide +kernel) rfl rfl dX11_takePoints_114 hT (fun M28 eM28 => ?_)
    replace h := h M28 eM28
    clear hT eM28
    refine x_iload_n E dX11_takePoints_117 rfl 2 rfl ?_
    refine x_if_gt (tgt := 125) E dX11_takePoints_118 (by decide) (fun c29 => ?_) (fun c29 => ?_)
    · replace h := xbr_t h c29
      clear c29
      refine x_iload_n E dX11_takePoints_125 rfl 2 rfl ?_
      refine x_goto (tgt := 134) E dX11_takePoints_126 (by decide) ?_
      exact x_iret E hr hlk dX11_takePoints_134 h
    · replace h := xbr_f h c29
      clear c29
      refine x_iload_n E dX11_takePoints_121 rfl 3 rfl ?_
      refine x_if_ne (tgt := 129) E dX11_takePoints_122 (by decide) (fun c30 => ?_) (fun c30 => ?_)
      · replace h := xbr_f h c30
        clear c30
        refine x_aload_n E dX11_takePoints_129 rfl 0 rfl ?_
        refine x_iload_n E dX11_takePoints_130 rfl 1 rfl ?_
        refine x_callVi (T := TX11) (N := 32) (t := 12) (As := [.int j1]) E mlX11_129 inX11_takeCutter seX11_takeCutter rfl ⟨by decide, by decide⟩ (tX11_takeCutter h) (kX11_takeCutter l z D cA j0 j1 M28 _ h) rfl ⟨rfl, rfl⟩ ⟨Nat.le_of_ble_eq_true rfl, Nat.le_of_ble_eq_true rfl⟩ ⟨(Nat.le_of_ble_eq_true rfl), (Nat.le_of_ble_eq_true rfl)⟩ (Nat.le_of_ble_eq_true rfl) rfl dX11_takePoints_131 (fun r31 M32 h => ?_)
        exact x_iret E hr hlk dX11_takePoints_134 h
      · replace h := xbr_t h c30
        clear c30
        refine x_iload_n E dX11_takePoints_125 rfl 2 rfl ?_
        refine x_goto (tgt := 134) E dX11_takePoints_126 (by decide) ?_
        exact x_iret E hr hlk dX11_takePoints_134 h
  have hJ98 : ∀ (M : Mem) (j0 : Nat) (j1 : Int32) (j2 : Int32) (s0 : Int32), JX11_takePoints_98 K M j0 j1 j2 s0 → xG p l e ({ frames := 4, cells := 0, slots := 0, locals := 88 } : Room) s m args below meth c (MQ below (va_Qi K (xWd z D cA) (xA z)) args s 0 0 (xA z)) 4 z D cA M (0) (0) 98 [(0, .ref j0), (1, .int j1), (2, .int j2)] [.int s0] := by
    intro M j0 j1 j2 s0 h
    refine x_istore_n (L' := [(3, .int s0), (0, .ref j0), (1, .int j1), (2, .int j2)]) E dX11_takePoints_98 rfl (by decide) rfl ?_
    refine x_aload_n E dX11_takePoints_99 rfl 1 rfl ?_
    refine x_dup E dX11_takePoints_100 rfl ?_
    obtain ⟨hT, v26, hv, h⟩ := h
    refine x_get E flX11_93 dX11_takePoints_101 hT hv ?_
    clear hT hv
    refine x_iload_n E dX11_takePoints_104 rfl 0 rfl ?_
    refine x_if_eq (tgt := 112) E dX11_takePoints_105 (by decide) (fun c27 => ?_) (fun c27 => ?_)
    · replace h := xbr_t h c27
      clear c27
      refine x_iconst (v := (J 0)) E dX11_takePoints_112 (by decide) ?_
      refine x_sub (L' := [(0, .ref j0), (1, .int j1), (2, .int j2), (3, .int s0)]) [1, 2, 3, 0] rfl ?_
      exact hJ113 M j0 j1 j2 s0 (J 0) v26 j0 h
    · replace h := xbr_f h c27
      clear c27
      refine x_iconst (v := (J 1)) E dX11_takePoints_108 (by decide) ?_
      refine x_goto (tgt := 113) E dX11_takePoints_109 (by decide) ?_
      refine x_sub (L' := [(0, .ref j0), (1, .int j1), (2, .int j2), (3, .int s0)]) [1, 2, 3, 0] rfl ?_
      exact hJ113 M j0 j1 j2 s0 (J 1) v26 j0 h
  have hJ97 : ∀ (M : Mem) (j0 : Nat) (j1 : Int32) (j2 : Int32), JX11_takePoints_97 K M j0 j1 j2 → xG p l e ({ frames := 4, cells := 0, slots := 0, locals := 88 } : Room) s m args below meth c (MQ below (va_Qi K (xWd z D cA) (xA z)) args s 0 0 (xA z)) 4 z D cA M (0) (0) 97 [(0, .ref j0), (1, .int j1), (2, .int j2)] [] := by
    intro M j0 j1 j2 h
    refine x_iconst (v := (J 0)) E dX11_takePoints_97 (by decide) ?_
    exact hJ98 M j0 j1 j2 (J 0) h
  replace h := h.2
  refine x_aload_n E dX11_takePoints_0 rfl 0 rfl ?_
  obtain ⟨hT, q1, hv, h⟩ := h
  refine x_get E flX11_16 dX11_takePoints_1 hT hv ?_
  clear hT hv
  refine x_aload_n E dX11_takePoints_4 rfl 0 rfl ?_
  obtain ⟨hT, v2, hv, h⟩ := h
  refine x_get E flX11_122 dX11_takePoints_5 hT hv ?_
  clear hT hv
  refine x_iconst (v := (J 0)) E dX11_takePoints_8 (by decide) ?_
  obtain ⟨hT, hi, h⟩ := h
  refine x_iast E dX11_takePoints_9 hT hi (fun M3 eM3 => ?_)
  replace h := h M3 eM3
  clear hT hi eM3
  refine x_aload_n E dX11_takePoints_10 rfl 0 rfl ?_
  obtain ⟨hT, q4, hv, h⟩ := h
  refine x_get E flX11_19 dX11_takePoints_11 hT hv ?_
  clear hT hv
  refine x_aload_n E dX11_takePoints_14 rfl 0 rfl ?_
  obtain ⟨hT, v5, hv, h⟩ := h
  refine x_get E flX11_122 dX11_takePoints_15 hT hv ?_
  clear hT hv
  refine x_iconst (v := (J 0)) E dX11_takePoints_18 (by decide) ?_
  obtain ⟨hT, hi, h⟩ := h
  refine x_iast E dX11_takePoints_19 hT hi (fun M6 eM6 => ?_)
  replace h := h M6 eM6
  clear hT hi eM6
  refine x_aload_n E dX11_takePoints_20 rfl 0 rfl ?_
  obtain ⟨hT, q7, hv, h⟩ := h
  refine x_get E flX11_7 dX11_takePoints_21 hT hv ?_
  clear hT hv
  refine x_iload_n E dX11_takePoints_24 rfl 1 rfl ?_
  refine x_bipush (v := (J 10)) E dX11_takePoints_25 (by decide) ?_
  refine x_iadd E dX11_takePoints_27 ?_
  refine x_iconst (v := (J (-1))) E dX11_takePoints_28 (by decide) ?_
  obtain ⟨hT, hi, h⟩ := h
  refine x_iast E dX11_takePoints_29 hT hi (fun M8 eM8 => ?_)
  replace h := h M8 eM8
  clear hT hi eM8
  refine x_iconst (v := (J 0)) E dX11_takePoints_30 (by decide) ?_
  refine x_istore_n (L' := [(2, .int (J 0)), (0, .ref a0), (1, .int x1)]) E dX11_takePoints_31 rfl (by decide) rfl ?_
  refine x_aload_n E dX11_takePoints_32 rfl 1 rfl ?_
  refine x_callVi (T := TX11) (N := 32) (t := 12) (As := []) E mlX11_96 inX11_byteAt seX11_byteAt rfl ⟨by decide, by decide⟩ (tX11_byteAt h) (kX11_byteAt l z D cA a0 M8 _ h) rfl ⟨rfl, rfl⟩ ⟨Nat.le_of_ble_eq_true rfl, Nat.le_of_ble_eq_true rfl⟩ ⟨(Nat.le_of_ble_eq_true rfl), (Nat.le_of_ble_eq_true rfl)⟩ (Nat.le_of_ble_eq_true rfl) rfl dX11_takePoints_33 (x_pure (fun r9 h => ?_))
  refine x_bipush (v := (J 46)) E dX11_takePoints_36 (by decide) ?_
  refine x_icmp_ne (tgt := 141) E dX11_takePoints_38 (by decide) (fun c11 => ?_) (fun c11 => ?_)
  · replace h := xbr_f h c11
    clear c11
    refine x_iload_n E dX11_takePoints_141 rfl 0 rfl ?_
    exact x_iret E hr hlk dX11_takePoints_142 h
  · replace h := xbr_t h c11
    clear c11
    refine x_aload_n E dX11_takePoints_41 rfl 1 rfl ?_
    refine x_dup E dX11_takePoints_42 rfl ?_
    obtain ⟨hT, v12, hv, h⟩ := h
    refine x_get E flX11_93 dX11_takePoints_43 hT hv ?_
    clear hT hv
    refine x_iconst (v := (J 1)) E dX11_takePoints_46 (by decide) ?_
    refine x_iadd E dX11_takePoints_47 ?_
    obtain ⟨hT, h⟩ := h
    refine x_put E flX11_93 ⟨tyX11_ok, nmX11, rfl⟩ (by decide +kernel) rfl rfl dX11_takePoints_48 hT (fun M13 eM13 => ?_)
    replace h := h M13 eM13
    clear hT eM13
    refine x_aload_n E dX11_takePoints_51 rfl 1 rfl ?_
    refine x_callVi (T := TX11) (N := 32) (t := 12) (As := []) E mlX11_111 inX11_isFigure seX11_isFigure rfl ⟨by decide, by decide⟩ (tX11_isFigure h) (kX11_isFigure l z D cA a0 M13 _ h) rfl ⟨rfl, rfl⟩ ⟨Nat.le_of_ble_eq_true rfl, Nat.le_of_ble_eq_true rfl⟩ ⟨(Nat.le_of_ble_eq_true rfl), (Nat.le_of_ble_eq_true rfl)⟩ (Nat.le_of_ble_eq_true rfl) rfl dX11_takePoints_52 (x_pure (fun r14 h => ?_))
    refine x_if_eq (tgt := 135) E dX11_takePoints_55 (by decide) (fun c16 => ?_) (fun c16 => ?_)
    · replace h := xbr_t h c16
      clear c16
      refine x_aload_n E dX11_takePoints_135 rfl 1 rfl ?_
      refine x_iload_n E dX11_takePoints_136 rfl 2 rfl ?_
      refine x_callVi (T := TX11) (N := 32) (t := 12) (As := [.int x1]) E mlX11_129 inX11_takeCutter seX11_takeCutter rfl ⟨by decide, by decide⟩ (tX11_takeCutter h) (kX11_takeCutter l z D cA a0 x1 M13 _ h) rfl ⟨rfl, rfl⟩ ⟨Nat.le_of_ble_eq_true rfl, Nat.le_of_ble_eq_true rfl⟩ ⟨(Nat.le_of_ble_eq_true rfl), (Nat.le_of_ble_eq_true rfl)⟩ (Nat.le_of_ble_eq_true rfl) rfl dX11_takePoints_137 (fun r17 M18 h => ?_)
      refine x_istore_n (L' := [(2, .int r17), (0, .ref a0), (1, .int x1)]) E dX11_takePoints_140 rfl (by decide) rfl ?_
      refine x_iload_n E dX11_takePoints_141 rfl 0 rfl ?_
      exact x_iret E hr hlk dX11_takePoints_142 h
    · replace h := xbr_f h c16
      clear c16
      refine x_aload_n E dX11_takePoints_58 rfl 1 rfl ?_
      refine x_iload_n E dX11_takePoints_59 rfl 2 rfl ?_
      refine x_bipush (v := (J 6)) E dX11_takePoints_60 (by decide) ?_
      refine x_iadd E dX11_takePoints_62 ?_
      refine x_callVi (T := TX11) (N := 32) (t := 12) (As := [.int (x1 + (J 6))]) E mlX11_125 inX11_takeFigures seX11_takeFigures rfl ⟨by decide, by decide⟩ (tX11_takeFigures h) (kX11_takeFigures l z D cA a0 (x1 + (J 6)) M13 _ h) rfl ⟨rfl, rfl⟩ ⟨Nat.le_of_ble_eq_true rfl, Nat.le_of_ble_eq_true rfl⟩ ⟨(Nat.le_of_ble_eq_true rfl), (Nat.le_of_ble_eq_true rfl)⟩ (Nat.le_of_ble_eq_true rfl) rfl dX11_takePoints_63 (fun r19 M20 h => ?_)
      refine x_istore_n (L' := [(2, .int r19), (0, .ref a0), (1, .int x1)]) E dX11_takePoints_66 rfl (by decide) rfl ?_
      refine x_aload_n E dX11_takePoints_67 rfl 1 rfl ?_
      obtain ⟨hT, q21, hv, h⟩ := h
      refine x_get E flX11_16 dX11_takePoints_68 hT hv ?_
      clear hT hv
      refine x_aload_n E dX11_takePoints_71 rfl 1 rfl ?_
      obtain ⟨hT, v22, hv, h⟩ := h
      refine x_get E flX11_122 dX11_takePoints_72 hT hv ?_
      clear hT hv
      refine x_aload_n E dX11_takePoints_75 rfl 1 rfl ?_
      obtain ⟨hT, v23, hv, h⟩ := h
      refine x_get E flX11_108 dX11_takePoints_76 hT hv ?_
      clear hT hv
      obtain ⟨hT, hi, h⟩ := h
      refine x_iast E dX11_takePoints_79 hT hi (fun M24 eM24 => ?_)
      replace h := h M24 eM24
      clear hT hi eM24
      refine x_iload_n E dX11_takePoints_80 rfl 0 rfl ?_
      refine x_if_ne (tgt := 97) E dX11_takePoints_81 (by decide) (fun c25 => ?_) (fun c25 => ?_)
      · replace h := xbr_f h c25
        clear c25
        refine x_sub (L' := [(0, .ref a0), (1, .int x1), (2, .int r19)]) [1, 2, 0] rfl ?_
        exact hJ97 M24 a0 x1 r19 h
      · replace h := xbr_t h c25
        clear c25
        refine x_aload_n E dX11_takePoints_84 rfl 1 rfl ?_
        refine x_callVi (T := TX11) (N := 32) (t := 12) (As := []) E mlX11_96 inX11_byteAt seX11_byteAt rfl ⟨by decide, by decide⟩ (tX11_byteAt h) (kX11_byteAt l z D cA a0 M24 _ h) rfl ⟨rfl, rfl⟩ ⟨Nat.le_of_ble_eq_true rfl, Nat.le_of_ble_eq_true rfl⟩ ⟨(Nat.le_of_ble_eq_true rfl), (Nat.le_of_ble_eq_true rfl)⟩ (Nat.le_of_ble_eq_true rfl) rfl dX11_takePoints_85 (x_pure (fun r33 h => ?_))
        refine x_bipush (v := (J 46)) E dX11_takePoints_88 (by decide) ?_
        refine x_icmp_ne (tgt := 97) E dX11_takePoints_90 (by decide) (fun c35 => ?_) (fun c35 => ?_)
        · replace h := xbr_f h c35
          clear c35
          refine x_sub (L' := [(0, .ref a0), (1, .int x1), (2, .int r19)]) [1, 2, 0] rfl ?_
          exact hJ97 M24 a0 x1 r19 h
        · replace h := xbr_t h c35
          clear c35
          refine x_iconst (v := (J 1)) E dX11_takePoints_93 (by decide) ?_
          refine x_goto (tgt := 98) E dX11_takePoints_94 (by decide) ?_
          refine x_sub (L' := [(0, .ref a0), (1, .int x1), (2, .int r19)]) [1, 2, 0] rfl ?_
          exact hJ98 M24 a0 x1 r19 (J 1) h
theorem dX11_takeYear_0 : decode cX11_takeYear 0 = .ok (.aload_n 0, 1) := by decide +kernel
theorem dX11_takeYear_1 : decode cX11_takeYear 1 = .ok (.dup, 1) := by decide +kernel
theorem dX11_takeYear_2 : decode cX11_takeYear 2 = .ok (.getfield 93, 3) := by decide +kernel
theorem dX11_takeYear_5 : decode cX11_takeYear 5 = .ok (.iconst 1, 1) := by decide +kernel
theorem dX11_takeYear_6 : decode cX11_takeYear 6 = .ok (.iadd, 1) := by decide +kernel
theorem dX11_takeYear_7 : decode cX11_takeYear 7 = .ok (.putfield 93, 3) := by decide +kernel
theorem dX11_takeYear_10 : decode cX11_takeYear 10 = .ok (.aload_n 0, 1) := by decide +kernel
theorem dX11_takeYear_11 : decode cX11_takeYear 11 = .ok (.getfield 93, 3) := by decide +kernel
theorem dX11_takeYear_14 : decode cX11_takeYear 14 = .ok (.istore_n 2, 1) := by decide +kernel
theorem dX11_takeYear_15 : decode cX11_takeYear 15 = .ok (.iconst 0, 1) := by decide +kernel
theorem dX11_takeYear_16 : decode cX11_takeYear 16 = .ok (.istore_n 3, 1) := by decide +kernel
theorem dX11_takeYear_17 : decode cX11_takeYear 17 = .ok (.iconst 0, 1) := by decide +kernel
theorem dX11_takeYear_18 : decode cX11_takeYear 18 = .ok (.istore 4, 2) := by decide +kernel
theorem dX11_takeYear_20 : decode cX11_takeYear 20 = .ok (.iload 4, 2) := by decide +kernel
theorem dX11_takeYear_22 : decode cX11_takeYear 22 = .ok (.iconst 4, 1) := by decide +kernel
theorem dX11_takeYear_23 : decode cX11_takeYear 23 = .ok (.if_icmp .ge 49, 3) := by decide +kernel
theorem dX11_takeYear_26 : decode cX11_takeYear 26 = .ok (.aload_n 0, 1) := by decide +kernel
theorem dX11_takeYear_27 : decode cX11_takeYear 27 = .ok (.invokevirtual 111, 3) := by decide +kernel
theorem dX11_takeYear_30 : decode cX11_takeYear 30 = .ok (.ifCond .ne 13, 3) := by decide +kernel
theorem dX11_takeYear_33 : decode cX11_takeYear 33 = .ok (.aload_n 0, 1) := by decide +kernel
theorem dX11_takeYear_34 : decode cX11_takeYear 34 = .ok (.iconst 1, 1) := by decide +kernel
theorem dX11_takeYear_35 : decode cX11_takeYear 35 = .ok (.aload_n 0, 1) := by decide +kernel
theorem dX11_takeYear_36 : decode cX11_takeYear 36 = .ok (.getfield 93, 3) := by decide +kernel
theorem dX11_takeYear_39 : decode cX11_takeYear 39 = .ok (.invokevirtual 115, 3) := by decide +kernel
theorem dX11_takeYear_42 : decode cX11_takeYear 42 = .ok (.ireturn, 1) := by decide +kernel
theorem dX11_takeYear_43 : decode cX11_takeYear 43 = .ok (.bipush 10, 2) := by decide +kernel
theorem dX11_takeYear_45 : decode cX11_takeYear 45 = .ok (.iload_n 3, 1) := by decide +kernel
theorem dX11_takeYear_46 : decode cX11_takeYear 46 = .ok (.imul, 1) := by decide +kernel
theorem dX11_takeYear_47 : decode cX11_takeYear 47 = .ok (.aload_n 0, 1) := by decide +kernel
theorem dX11_takeYear_48 : decode cX11_takeYear 48 = .ok (.invokevirtual 96, 3) := by decide +kernel
theorem dX11_takeYear_51 : decode cX11_takeYear 51 = .ok (.iadd, 1) := by decide +kernel
theorem dX11_takeYear_52 : decode cX11_takeYear 52 = .ok (.bipush 48, 2) := by decide +kernel
theorem dX11_takeYear_54 : decode cX11_takeYear 54 = .ok (.isub, 1) := by decide +kernel
theorem dX11_takeYear_55 : decode cX11_takeYear 55 = .ok (.istore_n 3, 1) := by decide +kernel
theorem dX11_takeYear_56 : decode cX11_takeYear 56 = .ok (.aload_n 0, 1) := by decide +kernel
theorem dX11_takeYear_57 : decode cX11_takeYear 57 = .ok (.dup, 1) := by decide +kernel
theorem dX11_takeYear_58 : decode cX11_takeYear 58 = .ok (.getfield 93, 3) := by decide +kernel
theorem dX11_takeYear_61 : decode cX11_takeYear 61 = .ok (.iconst 1, 1) := by decide +kernel
theorem dX11_takeYear_62 : decode cX11_takeYear 62 = .ok (.iadd, 1) := by decide +kernel
theorem dX11_takeYear_63 : decode cX11_takeYear 63 = .ok (.putfield 93, 3) := by decide +kernel
theorem dX11_takeYear_66 : decode cX11_takeYear 66 = .ok (.iinc 4 1, 3) := by decide +kernel
theorem dX11_takeYear_69 : decode cX11_takeYear 69 = .ok (.goto (-49), 3) := by decide +kernel
theorem dX11_takeYear_72 : decode cX11_takeYear 72 = .ok (.aload_n 0, 1) := by decide +kernel
theorem dX11_takeYear_73 : decode cX11_takeYear 73 = .ok (.getfield 7, 3) := by decide +kernel
theorem dX11_takeYear_76 : decode cX11_takeYear 76 = .ok (.iload_n 1, 1) := by decide +kernel
theorem dX11_takeYear_77 : decode cX11_takeYear 77 = .ok (.bipush 15, 2) := by decide +kernel
theorem dX11_takeYear_79 : decode cX11_takeYear 79 = .ok (.iadd, 1) := by decide +kernel
theorem dX11_takeYear_80 : decode cX11_takeYear 80 = .ok (.iload_n 3, 1) := by decide +kernel
theorem dX11_takeYear_81 : decode cX11_takeYear 81 = .ok (.iastore, 1) := by decide +kernel
theorem dX11_takeYear_82 : decode cX11_takeYear 82 = .ok (.iload_n 3, 1) := by decide +kernel
theorem dX11_takeYear_83 : decode cX11_takeYear 83 = .ok (.i2l, 1) := by decide +kernel
theorem dX11_takeYear_84 : decode cX11_takeYear 84 = .ok (.ldc2_w 132, 3) := by decide +kernel
theorem dX11_takeYear_87 : decode cX11_takeYear 87 = .ok (.ldc2_w 134, 3) := by decide +kernel
theorem dX11_takeYear_90 : decode cX11_takeYear 90 = .ok (.invokestatic 78, 3) := by decide +kernel
theorem dX11_takeYear_93 : decode cX11_takeYear 93 = .ok (.ifCond .eq 7, 3) := by decide +kernel
theorem dX11_takeYear_96 : decode cX11_takeYear 96 = .ok (.iconst 0, 1) := by decide +kernel
theorem dX11_takeYear_97 : decode cX11_takeYear 97 = .ok (.goto 9, 3) := by decide +kernel
theorem dX11_takeYear_100 : decode cX11_takeYear 100 = .ok (.aload_n 0, 1) := by decide +kernel
theorem dX11_takeYear_101 : decode cX11_takeYear 101 = .ok (.iconst 3, 1) := by decide +kernel
theorem dX11_takeYear_102 : decode cX11_takeYear 102 = .ok (.iload_n 2, 1) := by decide +kernel
theorem dX11_takeYear_103 : decode cX11_takeYear 103 = .ok (.invokevirtual 115, 3) := by decide +kernel
theorem dX11_takeYear_106 : decode cX11_takeYear 106 = .ok (.ireturn, 1) := by decide +kernel
set_option maxHeartbeats 4000000 in
set_option maxRecDepth 100000 in
theorem kX11_takeYear (l : Launch) (z : Nat) (D : va_G) (cA : Nat → ClassId) (a0 : Nat) (x1 : Int32) (M : Mem) (K : Int32 → Mem → Prop) (h : PX11_takeYear a0 x1 M K) : Met l yX11_takeYear (.code yX11_takeYear cX11_takeYear 5 (some .int) :: gtbl) ({ frames := 2, cells := 0, slots := 0, locals := 45 } : Room) (va_Pc [.ref a0, .int x1] (xB z D cA M)) (va_Qi K (xWd z D cA) (xA z)) 0 0 (xA z) := by
  refine x_met (by decide +kernel) (Nat.le_of_ble_eq_true rfl) (L0 := [(0, .ref a0), (1, .int x1)]) rfl ?_
  intro p e s m args below meth c E hr hlk hnm
  have E : xE RX11 cX11_takeYear 5 D cA p s m args c := E
  replace h := h.2
  refine x_aload_n E dX11_takeYear_0 rfl 0 rfl ?_
  refine x_dup E dX11_takeYear_1 rfl ?_
  obtain ⟨hT, v1, hv, h⟩ := h
  refine x_get E flX11_93 dX11_takeYear_2 hT hv ?_
  clear hT hv
  refine x_iconst (v := (J 1)) E dX11_takeYear_5 (by decide) ?_
  refine x_iadd E dX11_takeYear_6 ?_
  obtain ⟨hT, h⟩ := h
  refine x_put E flX11_93 ⟨tyX11_ok, nmX11, rfl⟩ (by decide +kernel) rfl rfl dX11_takeYear_7 hT (fun M2 eM2 => ?_)
  replace h := h M2 eM2
  clear hT eM2
  refine x_aload_n E dX11_takeYear_10 rfl 0 rfl ?_
  obtain ⟨hT, v3, hv, h⟩ := h
  refine x_get E flX11_93 dX11_takeYear_11 hT hv ?_
  clear hT hv
  refine x_istore_n (L' := [(2, .int v3), (0, .ref a0), (1, .int x1)]) E dX11_takeYear_14 rfl (by decide) rfl ?_
  refine x_iconst (v := (J 0)) E dX11_takeYear_15 (by decide) ?_
  refine x_istore_n (L' := [(3, .int (J 0)), (2, .int v3), (0, .ref a0), (1, .int x1)]) E dX11_takeYear_16 rfl (by decide) rfl ?_
  refine x_iconst (v := (J 0)) E dX11_takeYear_17 (by decide) ?_
  refine x_istore (L' := [(4, .int (J 0)), (3, .int (J 0)), (2, .int v3), (0, .ref a0), (1, .int x1)]) E dX11_takeYear_18 (by decide) rfl ?_
  refine x_sub (L' := [(0, .ref a0), (1, .int x1), (2, .int v3), (3, .int (J 0)), (4, .int (J 0))]) [3, 4, 2, 1, 0] rfl ?_
  refine lp_sound (T := fun sv => xG p l e ({ frames := 2, cells := 0, slots := 0, locals := 45 } : Room) s m args below meth c (MQ below (va_Qi K (xWd z D cA) (xA z)) args s 0 0 (xA z)) 5 z D cA sv.1 (0) (0) 20 [(0, .ref a0), (1, .int x1), (2, .int v3), (3, .int sv.2.1), (4, .int sv.2.2)] []) ?_ (M2, (J 0), (J 0)) h
  clear h
  intro kc20 hk20 sv h
  obtain ⟨M, x3, x4⟩ := sv
  replace h : CX11_takeYear_20 K a0 x1 v3 kc20 M x3 x4 := h
  try dsimp only
  refine x_iload E dX11_takeYear_20 4 rfl ?_
  refine x_iconst (v := (J 4)) E dX11_takeYear_22 (by decide) ?_
  refine x_icmp_ge (tgt := 72) E dX11_takeYear_23 (by decide) (fun c4 => ?_) (fun c4 => ?_)
  · replace h := xbr_t h c4
    clear c4
    refine x_aload_n E dX11_takeYear_72 rfl 0 rfl ?_
    obtain ⟨hT, q5, hv, h⟩ := h
    refine x_get E flX11_7 dX11_takeYear_73 hT hv ?_
    clear hT hv
    refine x_iload_n E dX11_takeYear_76 rfl 1 rfl ?_
    refine x_bipush (v := (J 15)) E dX11_takeYear_77 (by decide) ?_
    refine x_iadd E dX11_takeYear_79 ?_
    refine x_iload_n E dX11_takeYear_80 rfl 3 rfl ?_
    obtain ⟨hT, hi, h⟩ := h
    refine x_iast E dX11_takeYear_81 hT hi (fun M6 eM6 => ?_)
    replace h := h M6 eM6
    clear hT hi eM6
    refine x_iload_n E dX11_takeYear_82 rfl 3 rfl ?_
    refine x_i2l E dX11_takeYear_83 ?_
    refine x_ldc2 (v := (LJ 1000)) E (gw 1024 (by decide +kernel) rfl) dX11_takeYear_84 ?_
    refine x_ldc2 (v := (LJ 2999)) E (gw 1025 (by decide +kernel) rfl) dX11_takeYear_87 ?_
    refine x_callSi (As := [.long x3.toInt64, .long (LJ 1000), .long (LJ 2999)]) E mlX11_78 rfl stX11_in (kX11_in l z D cA x3.toInt64 (LJ 1000) (LJ 2999) M6 _ h) rfl ⟨rfl, rfl⟩ ⟨Nat.le_of_ble_eq_true rfl, Nat.le_of_ble_eq_true rfl⟩ ⟨(Nat.le_of_ble_eq_true rfl), (Nat.le_of_ble_eq_true rfl)⟩ (Nat.le_of_ble_eq_true rfl) rfl dX11_takeYear_90 (x_pure (fun r7 h => ?_))
    refine x_if_eq (tgt := 100) E dX11_takeYear_93 (by decide) (fun c9 => ?_) (fun c9 => ?_)
    · replace h := xbr_t h c9
      clear c9
      refine x_aload_n E dX11_takeYear_100 rfl 0 rfl ?_
      refine x_iconst (v := (J 3)) E dX11_takeYear_101 (by decide) ?_
      refine x_iload_n E dX11_takeYear_102 rfl 2 rfl ?_
      refine x_callVi (T := TX11) (N := 32) (t := 12) (As := [.int (J 3), .int v3]) E mlX11_115 inX11_fails seX11_fails rfl ⟨by decide, by decide⟩ (tX11_fails h) (kX11_fails l z D cA a0 (J 3) v3 M6 _ h) rfl ⟨rfl, rfl⟩ ⟨Nat.le_of_ble_eq_true rfl, Nat.le_of_ble_eq_true rfl⟩ ⟨(Nat.le_of_ble_eq_true rfl), (Nat.le_of_ble_eq_true rfl)⟩ (Nat.le_of_ble_eq_true rfl) rfl dX11_takeYear_103 (fun r10 M11 h => ?_)
      exact x_iret E hr hlk dX11_takeYear_106 h
    · replace h := xbr_f h c9
      clear c9
      refine x_iconst (v := (J 0)) E dX11_takeYear_96 (by decide) ?_
      refine x_goto (tgt := 106) E dX11_takeYear_97 (by decide) ?_
      exact x_iret E hr hlk dX11_takeYear_106 h
  · replace h := xbr_f h c4
    clear c4
    refine x_aload_n E dX11_takeYear_26 rfl 0 rfl ?_
    refine x_callVi (T := TX11) (N := 32) (t := 12) (As := []) E mlX11_111 inX11_isFigure seX11_isFigure rfl ⟨by decide, by decide⟩ (tX11_isFigure h) (kX11_isFigure l z D cA a0 M _ h) rfl ⟨rfl, rfl⟩ ⟨Nat.le_of_ble_eq_true rfl, Nat.le_of_ble_eq_true rfl⟩ ⟨(Nat.le_of_ble_eq_true rfl), (Nat.le_of_ble_eq_true rfl)⟩ (Nat.le_of_ble_eq_true rfl) rfl dX11_takeYear_27 (x_pure (fun r12 h => ?_))
    refine x_if_ne (tgt := 43) E dX11_takeYear_30 (by decide) (fun c14 => ?_) (fun c14 => ?_)
    · replace h := xbr_f h c14
      clear c14
      refine x_bipush (v := (J 10)) E dX11_takeYear_43 (by decide) ?_
      refine x_iload_n E dX11_takeYear_45 rfl 3 rfl ?_
      refine x_imul E dX11_takeYear_46 ?_
      refine x_aload_n E dX11_takeYear_47 rfl 0 rfl ?_
      refine x_callVi (T := TX11) (N := 32) (t := 12) (As := []) E mlX11_96 inX11_byteAt seX11_byteAt rfl ⟨by decide, by decide⟩ (tX11_byteAt h) (kX11_byteAt l z D cA a0 M _ h) rfl ⟨rfl, rfl⟩ ⟨Nat.le_of_ble_eq_true rfl, Nat.le_of_ble_eq_true rfl⟩ ⟨(Nat.le_of_ble_eq_true rfl), (Nat.le_of_ble_eq_true rfl)⟩ (Nat.le_of_ble_eq_true rfl) rfl dX11_takeYear_48 (x_pure (fun r15 h => ?_))
      refine x_iadd E dX11_takeYear_51 ?_
      refine x_bipush (v := (J 48)) E dX11_takeYear_52 (by decide) ?_
      refine x_isub E dX11_takeYear_54 ?_
      obtain ⟨y17, ey17, h⟩ := h
      refine x_top (v := .int y17) (congrArg _ ey17) ?_
      clear ey17
      refine x_istore_n (L' := [(3, .int y17), (0, .ref a0), (1, .int x1), (2, .int v3), (4, .int x4)]) E dX11_takeYear_55 rfl (by decide) rfl ?_
      refine x_aload_n E dX11_takeYear_56 rfl 1 rfl ?_
      refine x_dup E dX11_takeYear_57 rfl ?_
      obtain ⟨hT, v18, hv, h⟩ := h
      refine x_get E flX11_93 dX11_takeYear_58 hT hv ?_
      clear hT hv
      refine x_iconst (v := (J 1)) E dX11_takeYear_61 (by decide) ?_
      refine x_iadd E dX11_takeYear_62 ?_
      obtain ⟨hT, h⟩ := h
      refine x_put E flX11_93 ⟨tyX11_ok, nmX11, rfl⟩ (by decide +kernel) rfl rfl dX11_takeYear_63 hT (fun M19 eM19 => ?_)
      replace h := h M19 eM19
      clear hT eM19
      refine x_iinc (v := (x4 + (J 1))) (L' := [(4, .int (x4 + (J 1))), (3, .int y17), (0, .ref a0), (1, .int x1), (2, .int v3)]) E dX11_takeYear_66 4 rfl rfl (by decide) rfl ?_
      refine x_goto (tgt := 20) E dX11_takeYear_69 (by decide) ?_
      refine x_sub (L' := [(0, .ref a0), (1, .int x1), (2, .int v3), (3, .int y17), (4, .int (x4 + (J 1)))]) [2, 3, 4, 1, 0] rfl ?_
      exact hk20 (M19, y17, (x4 + (J 1))) h
    · replace h := xbr_t h c14
      clear c14
      refine x_aload_n E dX11_takeYear_33 rfl 0 rfl ?_
      refine x_iconst (v := (J 1)) E dX11_takeYear_34 (by decide) ?_
      refine x_aload_n E dX11_takeYear_35 rfl 0 rfl ?_
      obtain ⟨hT, v20, hv, h⟩ := h
      refine x_get E flX11_93 dX11_takeYear_36 hT hv ?_
      clear hT hv
      refine x_callVi (T := TX11) (N := 32) (t := 12) (As := [.int (J 1), .int v20]) E mlX11_115 inX11_fails seX11_fails rfl ⟨by decide, by decide⟩ (tX11_fails h) (kX11_fails l z D cA a0 (J 1) v20 M _ h) rfl ⟨rfl, rfl⟩ ⟨Nat.le_of_ble_eq_true rfl, Nat.le_of_ble_eq_true rfl⟩ ⟨(Nat.le_of_ble_eq_true rfl), (Nat.le_of_ble_eq_true rfl)⟩ (Nat.le_of_ble_eq_true rfl) rfl dX11_takeYear_39 (fun r21 M22 h => ?_)
      exact x_iret E hr hlk dX11_takeYear_42 h
theorem dX11_takeWidth_0 : decode cX11_takeWidth 0 = .ok (.aload_n 0, 1) := by decide +kernel
theorem dX11_takeWidth_1 : decode cX11_takeWidth 1 = .ok (.dup, 1) := by decide +kernel
theorem dX11_takeWidth_2 : decode cX11_takeWidth 2 = .ok (.getfield 93, 3) := by decide +kernel
theorem dX11_takeWidth_5 : decode cX11_takeWidth 5 = .ok (.iconst 1, 1) := by decide +kernel
theorem dX11_takeWidth_6 : decode cX11_takeWidth 6 = .ok (.iadd, 1) := by decide +kernel
theorem dX11_takeWidth_7 : decode cX11_takeWidth 7 = .ok (.putfield 93, 3) := by decide +kernel
theorem dX11_takeWidth_10 : decode cX11_takeWidth 10 = .ok (.aload_n 0, 1) := by decide +kernel
theorem dX11_takeWidth_11 : decode cX11_takeWidth 11 = .ok (.invokevirtual 96, 3) := by decide +kernel
theorem dX11_takeWidth_14 : decode cX11_takeWidth 14 = .ok (.i2l, 1) := by decide +kernel
theorem dX11_takeWidth_15 : decode cX11_takeWidth 15 = .ok (.ldc2_w 136, 3) := by decide +kernel
theorem dX11_takeWidth_18 : decode cX11_takeWidth 18 = .ok (.ldc2_w 106, 3) := by decide +kernel
theorem dX11_takeWidth_21 : decode cX11_takeWidth 21 = .ok (.invokestatic 78, 3) := by decide +kernel
theorem dX11_takeWidth_24 : decode cX11_takeWidth 24 = .ok (.ifCond .ne 13, 3) := by decide +kernel
theorem dX11_takeWidth_27 : decode cX11_takeWidth 27 = .ok (.aload_n 0, 1) := by decide +kernel
theorem dX11_takeWidth_28 : decode cX11_takeWidth 28 = .ok (.iconst 1, 1) := by decide +kernel
theorem dX11_takeWidth_29 : decode cX11_takeWidth 29 = .ok (.aload_n 0, 1) := by decide +kernel
theorem dX11_takeWidth_30 : decode cX11_takeWidth 30 = .ok (.getfield 93, 3) := by decide +kernel
theorem dX11_takeWidth_33 : decode cX11_takeWidth 33 = .ok (.invokevirtual 115, 3) := by decide +kernel
theorem dX11_takeWidth_36 : decode cX11_takeWidth 36 = .ok (.ireturn, 1) := by decide +kernel
theorem dX11_takeWidth_37 : decode cX11_takeWidth 37 = .ok (.aload_n 0, 1) := by decide +kernel
theorem dX11_takeWidth_38 : decode cX11_takeWidth 38 = .ok (.getfield 22, 3) := by decide +kernel
theorem dX11_takeWidth_41 : decode cX11_takeWidth 41 = .ok (.aload_n 0, 1) := by decide +kernel
theorem dX11_takeWidth_42 : decode cX11_takeWidth 42 = .ok (.getfield 122, 3) := by decide +kernel
theorem dX11_takeWidth_45 : decode cX11_takeWidth 45 = .ok (.aload_n 0, 1) := by decide +kernel
theorem dX11_takeWidth_46 : decode cX11_takeWidth 46 = .ok (.invokevirtual 96, 3) := by decide +kernel
theorem dX11_takeWidth_49 : decode cX11_takeWidth 49 = .ok (.bipush 48, 2) := by decide +kernel
theorem dX11_takeWidth_51 : decode cX11_takeWidth 51 = .ok (.isub, 1) := by decide +kernel
theorem dX11_takeWidth_52 : decode cX11_takeWidth 52 = .ok (.iastore, 1) := by decide +kernel
theorem dX11_takeWidth_53 : decode cX11_takeWidth 53 = .ok (.aload_n 0, 1) := by decide +kernel
theorem dX11_takeWidth_54 : decode cX11_takeWidth 54 = .ok (.dup, 1) := by decide +kernel
theorem dX11_takeWidth_55 : decode cX11_takeWidth 55 = .ok (.getfield 93, 3) := by decide +kernel
theorem dX11_takeWidth_58 : decode cX11_takeWidth 58 = .ok (.iconst 1, 1) := by decide +kernel
theorem dX11_takeWidth_59 : decode cX11_takeWidth 59 = .ok (.iadd, 1) := by decide +kernel
theorem dX11_takeWidth_60 : decode cX11_takeWidth 60 = .ok (.putfield 93, 3) := by decide +kernel
theorem dX11_takeWidth_63 : decode cX11_takeWidth 63 = .ok (.iconst 0, 1) := by decide +kernel
theorem dX11_takeWidth_64 : decode cX11_takeWidth 64 = .ok (.ireturn, 1) := by decide +kernel
set_option maxHeartbeats 4000000 in
set_option maxRecDepth 100000 in
theorem kX11_takeWidth (l : Launch) (z : Nat) (D : va_G) (cA : Nat → ClassId) (a0 : Nat) (M : Mem) (K : Int32 → Mem → Prop) (h : PX11_takeWidth a0 M K) : Met l yX11_takeWidth (.code yX11_takeWidth cX11_takeWidth 1 (some .int) :: gtbl) ({ frames := 1, cells := 0, slots := 0, locals := 25 } : Room) (va_Pc [.ref a0] (xB z D cA M)) (va_Qi K (xWd z D cA) (xA z)) 0 0 (xA z) := by
  refine x_met (by decide +kernel) (Nat.le_of_ble_eq_true rfl) (L0 := [(0, .ref a0)]) rfl ?_
  intro p e s m args below meth c E hr hlk hnm
  have E : xE RX11 cX11_takeWidth 1 D cA p s m args c := E
  replace h := h.2
  refine x_aload_n E dX11_takeWidth_0 rfl 0 rfl ?_
  refine x_dup E dX11_takeWidth_1 rfl ?_
  obtain ⟨hT, v1, hv, h⟩ := h
  refine x_get E flX11_93 dX11_takeWidth_2 hT hv ?_
  clear hT hv
  refine x_iconst (v := (J 1)) E dX11_takeWidth_5 (by decide) ?_
  refine x_iadd E dX11_takeWidth_6 ?_
  obtain ⟨hT, h⟩ := h
  refine x_put E flX11_93 ⟨tyX11_ok, nmX11, rfl⟩ (by decide +kernel) rfl rfl dX11_takeWidth_7 hT (fun M2 eM2 => ?_)
  replace h := h M2 eM2
  clear hT eM2
  refine x_aload_n E dX11_takeWidth_10 rfl 0 rfl ?_
  refine x_callVi (T := TX11) (N := 32) (t := 12) (As := []) E mlX11_96 inX11_byteAt seX11_byteAt rfl ⟨by decide, by decide⟩ (tX11_byteAt h) (kX11_byteAt l z D cA a0 M2 _ h) rfl ⟨rfl, rfl⟩ ⟨Nat.le_of_ble_eq_true rfl, Nat.le_of_ble_eq_true rfl⟩ ⟨(Nat.le_of_ble_eq_true rfl), (Nat.le_of_ble_eq_true rfl)⟩ (Nat.le_of_ble_eq_true rfl) rfl dX11_takeWidth_11 (x_pure (fun r3 h => ?_))
  refine x_i2l E dX11_takeWidth_14 ?_
  refine x_ldc2 (v := (LJ 49)) E (gw 1030 (by decide +kernel) rfl) dX11_takeWidth_15 ?_
  refine x_ldc2 (v := (LJ 57)) E (gw 1011 (by decide +kernel) rfl) dX11_takeWidth_18 ?_
  refine x_callSi (As := [.long r3.toInt64, .long (LJ 49), .long (LJ 57)]) E mlX11_78 rfl stX11_in (kX11_in l z D cA r3.toInt64 (LJ 49) (LJ 57) M2 _ h) rfl ⟨rfl, rfl⟩ ⟨Nat.le_of_ble_eq_true rfl, Nat.le_of_ble_eq_true rfl⟩ ⟨(Nat.le_of_ble_eq_true rfl), (Nat.le_of_ble_eq_true rfl)⟩ (Nat.le_of_ble_eq_true rfl) rfl dX11_takeWidth_21 (x_pure (fun r5 h => ?_))
  refine x_if_ne (tgt := 37) E dX11_takeWidth_24 (by decide) (fun c7 => ?_) (fun c7 => ?_)
  · replace h := xbr_f h c7
    clear c7
    refine x_aload_n E dX11_takeWidth_37 rfl 0 rfl ?_
    obtain ⟨hT, q8, hv, h⟩ := h
    refine x_get E flX11_22 dX11_takeWidth_38 hT hv ?_
    clear hT hv
    refine x_aload_n E dX11_takeWidth_41 rfl 0 rfl ?_
    obtain ⟨hT, v9, hv, h⟩ := h
    refine x_get E flX11_122 dX11_takeWidth_42 hT hv ?_
    clear hT hv
    refine x_aload_n E dX11_takeWidth_45 rfl 0 rfl ?_
    refine x_callVi (T := TX11) (N := 32) (t := 12) (As := []) E mlX11_96 inX11_byteAt seX11_byteAt rfl ⟨by decide, by decide⟩ (tX11_byteAt h) (kX11_byteAt l z D cA a0 M2 _ h) rfl ⟨rfl, rfl⟩ ⟨Nat.le_of_ble_eq_true rfl, Nat.le_of_ble_eq_true rfl⟩ ⟨(Nat.le_of_ble_eq_true rfl), (Nat.le_of_ble_eq_true rfl)⟩ (Nat.le_of_ble_eq_true rfl) rfl dX11_takeWidth_46 (x_pure (fun r10 h => ?_))
    refine x_bipush (v := (J 48)) E dX11_takeWidth_49 (by decide) ?_
    refine x_isub E dX11_takeWidth_51 ?_
    obtain ⟨hT, hi, h⟩ := h
    refine x_iast E dX11_takeWidth_52 hT hi (fun M12 eM12 => ?_)
    replace h := h M12 eM12
    clear hT hi eM12
    refine x_aload_n E dX11_takeWidth_53 rfl 0 rfl ?_
    refine x_dup E dX11_takeWidth_54 rfl ?_
    obtain ⟨hT, v13, hv, h⟩ := h
    refine x_get E flX11_93 dX11_takeWidth_55 hT hv ?_
    clear hT hv
    refine x_iconst (v := (J 1)) E dX11_takeWidth_58 (by decide) ?_
    refine x_iadd E dX11_takeWidth_59 ?_
    obtain ⟨hT, h⟩ := h
    refine x_put E flX11_93 ⟨tyX11_ok, nmX11, rfl⟩ (by decide +kernel) rfl rfl dX11_takeWidth_60 hT (fun M14 eM14 => ?_)
    replace h := h M14 eM14
    clear hT eM14
    refine x_iconst (v := (J 0)) E dX11_takeWidth_63 (by decide) ?_
    exact x_iret E hr hlk dX11_takeWidth_64 h
  · replace h := xbr_t h c7
    clear c7
    refine x_aload_n E dX11_takeWidth_27 rfl 0 rfl ?_
    refine x_iconst (v := (J 1)) E dX11_takeWidth_28 (by decide) ?_
    refine x_aload_n E dX11_takeWidth_29 rfl 0 rfl ?_
    obtain ⟨hT, v15, hv, h⟩ := h
    refine x_get E flX11_93 dX11_takeWidth_30 hT hv ?_
    clear hT hv
    refine x_callVi (T := TX11) (N := 32) (t := 12) (As := [.int (J 1), .int v15]) E mlX11_115 inX11_fails seX11_fails rfl ⟨by decide, by decide⟩ (tX11_fails h) (kX11_fails l z D cA a0 (J 1) v15 M2 _ h) rfl ⟨rfl, rfl⟩ ⟨Nat.le_of_ble_eq_true rfl, Nat.le_of_ble_eq_true rfl⟩ ⟨(Nat.le_of_ble_eq_true rfl), (Nat.le_of_ble_eq_true rfl)⟩ (Nat.le_of_ble_eq_true rfl) rfl dX11_takeWidth_33 (fun r16 M17 h => ?_)
    exact x_iret E hr hlk dX11_takeWidth_36 h
theorem dX11_isSame_0 : decode cX11_isSame 0 = .ok (.aload_n 0, 1) := by decide +kernel
theorem dX11_isSame_1 : decode cX11_isSame 1 = .ok (.getfield 13, 3) := by decide +kernel
theorem dX11_isSame_4 : decode cX11_isSame 4 = .ok (.iload_n 1, 1) := by decide +kernel
theorem dX11_isSame_5 : decode cX11_isSame 5 = .ok (.iaload, 1) := by decide +kernel
theorem dX11_isSame_6 : decode cX11_isSame 6 = .ok (.aload_n 0, 1) := by decide +kernel
theorem dX11_isSame_7 : decode cX11_isSame 7 = .ok (.getfield 13, 3) := by decide +kernel
theorem dX11_isSame_10 : decode cX11_isSame 10 = .ok (.iload_n 2, 1) := by decide +kernel
theorem dX11_isSame_11 : decode cX11_isSame 11 = .ok (.iaload, 1) := by decide +kernel
theorem dX11_isSame_12 : decode cX11_isSame 12 = .ok (.if_icmp .ne 91, 3) := by decide +kernel
theorem dX11_isSame_15 : decode cX11_isSame 15 = .ok (.aload_n 0, 1) := by decide +kernel
theorem dX11_isSame_16 : decode cX11_isSame 16 = .ok (.getfield 16, 3) := by decide +kernel
theorem dX11_isSame_19 : decode cX11_isSame 19 = .ok (.iload_n 1, 1) := by decide +kernel
theorem dX11_isSame_20 : decode cX11_isSame 20 = .ok (.iaload, 1) := by decide +kernel
theorem dX11_isSame_21 : decode cX11_isSame 21 = .ok (.aload_n 0, 1) := by decide +kernel
theorem dX11_isSame_22 : decode cX11_isSame 22 = .ok (.getfield 16, 3) := by decide +kernel
theorem dX11_isSame_25 : decode cX11_isSame 25 = .ok (.iload_n 2, 1) := by decide +kernel
theorem dX11_isSame_26 : decode cX11_isSame 26 = .ok (.iaload, 1) := by decide +kernel
theorem dX11_isSame_27 : decode cX11_isSame 27 = .ok (.if_icmp .ne 76, 3) := by decide +kernel
theorem dX11_isSame_30 : decode cX11_isSame 30 = .ok (.aload_n 0, 1) := by decide +kernel
theorem dX11_isSame_31 : decode cX11_isSame 31 = .ok (.getfield 19, 3) := by decide +kernel
theorem dX11_isSame_34 : decode cX11_isSame 34 = .ok (.iload_n 1, 1) := by decide +kernel
theorem dX11_isSame_35 : decode cX11_isSame 35 = .ok (.iaload, 1) := by decide +kernel
theorem dX11_isSame_36 : decode cX11_isSame 36 = .ok (.aload_n 0, 1) := by decide +kernel
theorem dX11_isSame_37 : decode cX11_isSame 37 = .ok (.getfield 19, 3) := by decide +kernel
theorem dX11_isSame_40 : decode cX11_isSame 40 = .ok (.iload_n 2, 1) := by decide +kernel
theorem dX11_isSame_41 : decode cX11_isSame 41 = .ok (.iaload, 1) := by decide +kernel
theorem dX11_isSame_42 : decode cX11_isSame 42 = .ok (.if_icmp .ne 61, 3) := by decide +kernel
theorem dX11_isSame_45 : decode cX11_isSame 45 = .ok (.aload_n 0, 1) := by decide +kernel
theorem dX11_isSame_46 : decode cX11_isSame 46 = .ok (.getfield 7, 3) := by decide +kernel
theorem dX11_isSame_49 : decode cX11_isSame 49 = .ok (.bipush 16, 2) := by decide +kernel
theorem dX11_isSame_51 : decode cX11_isSame 51 = .ok (.iload_n 1, 1) := by decide +kernel
theorem dX11_isSame_52 : decode cX11_isSame 52 = .ok (.imul, 1) := by decide +kernel
theorem dX11_isSame_53 : decode cX11_isSame 53 = .ok (.bipush 10, 2) := by decide +kernel
theorem dX11_isSame_55 : decode cX11_isSame 55 = .ok (.iadd, 1) := by decide +kernel
theorem dX11_isSame_56 : decode cX11_isSame 56 = .ok (.iaload, 1) := by decide +kernel
theorem dX11_isSame_57 : decode cX11_isSame 57 = .ok (.aload_n 0, 1) := by decide +kernel
theorem dX11_isSame_58 : decode cX11_isSame 58 = .ok (.getfield 7, 3) := by decide +kernel
theorem dX11_isSame_61 : decode cX11_isSame 61 = .ok (.bipush 16, 2) := by decide +kernel
theorem dX11_isSame_63 : decode cX11_isSame 63 = .ok (.iload_n 2, 1) := by decide +kernel
theorem dX11_isSame_64 : decode cX11_isSame 64 = .ok (.imul, 1) := by decide +kernel
theorem dX11_isSame_65 : decode cX11_isSame 65 = .ok (.bipush 10, 2) := by decide +kernel
theorem dX11_isSame_67 : decode cX11_isSame 67 = .ok (.iadd, 1) := by decide +kernel
theorem dX11_isSame_68 : decode cX11_isSame 68 = .ok (.iaload, 1) := by decide +kernel
theorem dX11_isSame_69 : decode cX11_isSame 69 = .ok (.if_icmp .ne 34, 3) := by decide +kernel
theorem dX11_isSame_72 : decode cX11_isSame 72 = .ok (.aload_n 0, 1) := by decide +kernel
theorem dX11_isSame_73 : decode cX11_isSame 73 = .ok (.getfield 7, 3) := by decide +kernel
theorem dX11_isSame_76 : decode cX11_isSame 76 = .ok (.bipush 16, 2) := by decide +kernel
theorem dX11_isSame_78 : decode cX11_isSame 78 = .ok (.iload_n 1, 1) := by decide +kernel
theorem dX11_isSame_79 : decode cX11_isSame 79 = .ok (.imul, 1) := by decide +kernel
theorem dX11_isSame_80 : decode cX11_isSame 80 = .ok (.bipush 15, 2) := by decide +kernel
theorem dX11_isSame_82 : decode cX11_isSame 82 = .ok (.iadd, 1) := by decide +kernel
theorem dX11_isSame_83 : decode cX11_isSame 83 = .ok (.iaload, 1) := by decide +kernel
theorem dX11_isSame_84 : decode cX11_isSame 84 = .ok (.aload_n 0, 1) := by decide +kernel
theorem dX11_isSame_85 : decode cX11_isSame 85 = .ok (.getfield 7, 3) := by decide +kernel
theorem dX11_isSame_88 : decode cX11_isSame 88 = .ok (.bipush 16, 2) := by decide +kernel
theorem dX11_isSame_90 : decode cX11_isSame 90 = .ok (.iload_n 2, 1) := by decide +kernel
theorem dX11_isSame_91 : decode cX11_isSame 91 = .ok (.imul, 1) := by decide +kernel
theorem dX11_isSame_92 : decode cX11_isSame 92 = .ok (.bipush 15, 2) := by decide +kernel
theorem dX11_isSame_94 : decode cX11_isSame 94 = .ok (.iadd, 1) := by decide +kernel
theorem dX11_isSame_95 : decode cX11_isSame 95 = .ok (.iaload, 1) := by decide +kernel
theorem dX11_isSame_96 : decode cX11_isSame 96 = .ok (.if_icmp .ne 7, 3) := by decide +kernel
theorem dX11_isSame_99 : decode cX11_isSame 99 = .ok (.iconst 1, 1) := by decide +kernel
theorem dX11_isSame_100 : decode cX11_isSame 100 = .ok (.goto 4, 3) := by decide +kernel
theorem dX11_isSame_103 : decode cX11_isSame 103 = .ok (.iconst 0, 1) := by decide +kernel
theorem dX11_isSame_104 : decode cX11_isSame 104 = .ok (.istore_n 3, 1) := by decide +kernel
theorem dX11_isSame_105 : decode cX11_isSame 105 = .ok (.iconst 0, 1) := by decide +kernel
theorem dX11_isSame_106 : decode cX11_isSame 106 = .ok (.istore 4, 2) := by decide +kernel
theorem dX11_isSame_108 : decode cX11_isSame 108 = .ok (.iload 4, 2) := by decide +kernel
theorem dX11_isSame_110 : decode cX11_isSame 110 = .ok (.iconst 2, 1) := by decide +kernel
theorem dX11_isSame_111 : decode cX11_isSame 111 = .ok (.if_icmp .ge 46, 3) := by decide +kernel
theorem dX11_isSame_114 : decode cX11_isSame 114 = .ok (.iload_n 3, 1) := by decide +kernel
theorem dX11_isSame_115 : decode cX11_isSame 115 = .ok (.ifCond .eq 34, 3) := by decide +kernel
theorem dX11_isSame_118 : decode cX11_isSame 118 = .ok (.aload_n 0, 1) := by decide +kernel
theorem dX11_isSame_119 : decode cX11_isSame 119 = .ok (.getfield 7, 3) := by decide +kernel
theorem dX11_isSame_122 : decode cX11_isSame 122 = .ok (.bipush 16, 2) := by decide +kernel
theorem dX11_isSame_124 : decode cX11_isSame 124 = .ok (.iload_n 1, 1) := by decide +kernel
theorem dX11_isSame_125 : decode cX11_isSame 125 = .ok (.imul, 1) := by decide +kernel
theorem dX11_isSame_126 : decode cX11_isSame 126 = .ok (.iload 4, 2) := by decide +kernel
theorem dX11_isSame_128 : decode cX11_isSame 128 = .ok (.iadd, 1) := by decide +kernel
theorem dX11_isSame_129 : decode cX11_isSame 129 = .ok (.iaload, 1) := by decide +kernel
theorem dX11_isSame_130 : decode cX11_isSame 130 = .ok (.aload_n 0, 1) := by decide +kernel
theorem dX11_isSame_131 : decode cX11_isSame 131 = .ok (.getfield 7, 3) := by decide +kernel
theorem dX11_isSame_134 : decode cX11_isSame 134 = .ok (.bipush 16, 2) := by decide +kernel
theorem dX11_isSame_136 : decode cX11_isSame 136 = .ok (.iload_n 2, 1) := by decide +kernel
theorem dX11_isSame_137 : decode cX11_isSame 137 = .ok (.imul, 1) := by decide +kernel
theorem dX11_isSame_138 : decode cX11_isSame 138 = .ok (.iload 4, 2) := by decide +kernel
theorem dX11_isSame_140 : decode cX11_isSame 140 = .ok (.iadd, 1) := by decide +kernel
theorem dX11_isSame_141 : decode cX11_isSame 141 = .ok (.iaload, 1) := by decide +kernel
theorem dX11_isSame_142 : decode cX11_isSame 142 = .ok (.if_icmp .ne 7, 3) := by decide +kernel
theorem dX11_isSame_145 : decode cX11_isSame 145 = .ok (.iconst 1, 1) := by decide +kernel
theorem dX11_isSame_146 : decode cX11_isSame 146 = .ok (.goto 4, 3) := by decide +kernel
theorem dX11_isSame_149 : decode cX11_isSame 149 = .ok (.iconst 0, 1) := by decide +kernel
theorem dX11_isSame_150 : decode cX11_isSame 150 = .ok (.istore_n 3, 1) := by decide +kernel
theorem dX11_isSame_151 : decode cX11_isSame 151 = .ok (.iinc 4 1, 3) := by decide +kernel
theorem dX11_isSame_154 : decode cX11_isSame 154 = .ok (.goto (-46), 3) := by decide +kernel
theorem dX11_isSame_157 : decode cX11_isSame 157 = .ok (.iconst 0, 1) := by decide +kernel
theorem dX11_isSame_158 : decode cX11_isSame 158 = .ok (.istore 4, 2) := by decide +kernel
theorem dX11_isSame_160 : decode cX11_isSame 160 = .ok (.iload 4, 2) := by decide +kernel
theorem dX11_isSame_162 : decode cX11_isSame 162 = .ok (.iconst 4, 1) := by decide +kernel
theorem dX11_isSame_163 : decode cX11_isSame 163 = .ok (.if_icmp .ge 169, 3) := by decide +kernel
theorem dX11_isSame_166 : decode cX11_isSame 166 = .ok (.iload_n 3, 1) := by decide +kernel
theorem dX11_isSame_167 : decode cX11_isSame 167 = .ok (.ifCond .eq 49, 3) := by decide +kernel
theorem dX11_isSame_170 : decode cX11_isSame 170 = .ok (.iload 4, 2) := by decide +kernel
theorem dX11_isSame_172 : decode cX11_isSame 172 = .ok (.aload_n 0, 1) := by decide +kernel
theorem dX11_isSame_173 : decode cX11_isSame 173 = .ok (.getfield 13, 3) := by decide +kernel
theorem dX11_isSame_176 : decode cX11_isSame 176 = .ok (.iload_n 1, 1) := by decide +kernel
theorem dX11_isSame_177 : decode cX11_isSame 177 = .ok (.iaload, 1) := by decide +kernel
theorem dX11_isSame_178 : decode cX11_isSame 178 = .ok (.if_icmp .ge 34, 3) := by decide +kernel
theorem dX11_isSame_181 : decode cX11_isSame 181 = .ok (.aload_n 0, 1) := by decide +kernel
theorem dX11_isSame_182 : decode cX11_isSame 182 = .ok (.getfield 7, 3) := by decide +kernel
theorem dX11_isSame_185 : decode cX11_isSame 185 = .ok (.bipush 16, 2) := by decide +kernel
theorem dX11_isSame_187 : decode cX11_isSame 187 = .ok (.iload_n 1, 1) := by decide +kernel
theorem dX11_isSame_188 : decode cX11_isSame 188 = .ok (.imul, 1) := by decide +kernel
theorem dX11_isSame_189 : decode cX11_isSame 189 = .ok (.iconst 2, 1) := by decide +kernel
theorem dX11_isSame_190 : decode cX11_isSame 190 = .ok (.iadd, 1) := by decide +kernel
theorem dX11_isSame_191 : decode cX11_isSame 191 = .ok (.iload 4, 2) := by decide +kernel
theorem dX11_isSame_193 : decode cX11_isSame 193 = .ok (.iadd, 1) := by decide +kernel
theorem dX11_isSame_194 : decode cX11_isSame 194 = .ok (.iaload, 1) := by decide +kernel
theorem dX11_isSame_195 : decode cX11_isSame 195 = .ok (.aload_n 0, 1) := by decide +kernel
theorem dX11_isSame_196 : decode cX11_isSame 196 = .ok (.getfield 7, 3) := by decide +kernel
theorem dX11_isSame_199 : decode cX11_isSame 199 = .ok (.bipush 16, 2) := by decide +kernel
theorem dX11_isSame_201 : decode cX11_isSame 201 = .ok (.iload_n 2, 1) := by decide +kernel
theorem dX11_isSame_202 : decode cX11_isSame 202 = .ok (.imul, 1) := by decide +kernel
theorem dX11_isSame_203 : decode cX11_isSame 203 = .ok (.iconst 2, 1) := by decide +kernel
theorem dX11_isSame_204 : decode cX11_isSame 204 = .ok (.iadd, 1) := by decide +kernel
theorem dX11_isSame_205 : decode cX11_isSame 205 = .ok (.iload 4, 2) := by decide +kernel
theorem dX11_isSame_207 : decode cX11_isSame 207 = .ok (.iadd, 1) := by decide +kernel
theorem dX11_isSame_208 : decode cX11_isSame 208 = .ok (.iaload, 1) := by decide +kernel
theorem dX11_isSame_209 : decode cX11_isSame 209 = .ok (.if_icmp .ne 7, 3) := by decide +kernel
theorem dX11_isSame_212 : decode cX11_isSame 212 = .ok (.iconst 1, 1) := by decide +kernel
theorem dX11_isSame_213 : decode cX11_isSame 213 = .ok (.goto 4, 3) := by decide +kernel
theorem dX11_isSame_216 : decode cX11_isSame 216 = .ok (.iconst 0, 1) := by decide +kernel
theorem dX11_isSame_217 : decode cX11_isSame 217 = .ok (.istore_n 3, 1) := by decide +kernel
theorem dX11_isSame_218 : decode cX11_isSame 218 = .ok (.iload_n 3, 1) := by decide +kernel
theorem dX11_isSame_219 : decode cX11_isSame 219 = .ok (.ifCond .eq 51, 3) := by decide +kernel
theorem dX11_isSame_222 : decode cX11_isSame 222 = .ok (.iload 4, 2) := by decide +kernel
theorem dX11_isSame_224 : decode cX11_isSame 224 = .ok (.aload_n 0, 1) := by decide +kernel
theorem dX11_isSame_225 : decode cX11_isSame 225 = .ok (.getfield 16, 3) := by decide +kernel
theorem dX11_isSame_228 : decode cX11_isSame 228 = .ok (.iload_n 1, 1) := by decide +kernel
theorem dX11_isSame_229 : decode cX11_isSame 229 = .ok (.iaload, 1) := by decide +kernel
theorem dX11_isSame_230 : decode cX11_isSame 230 = .ok (.if_icmp .ge 36, 3) := by decide +kernel
theorem dX11_isSame_233 : decode cX11_isSame 233 = .ok (.aload_n 0, 1) := by decide +kernel
theorem dX11_isSame_234 : decode cX11_isSame 234 = .ok (.getfield 7, 3) := by decide +kernel
theorem dX11_isSame_237 : decode cX11_isSame 237 = .ok (.bipush 16, 2) := by decide +kernel
theorem dX11_isSame_239 : decode cX11_isSame 239 = .ok (.iload_n 1, 1) := by decide +kernel
theorem dX11_isSame_240 : decode cX11_isSame 240 = .ok (.imul, 1) := by decide +kernel
theorem dX11_isSame_241 : decode cX11_isSame 241 = .ok (.bipush 6, 2) := by decide +kernel
theorem dX11_isSame_243 : decode cX11_isSame 243 = .ok (.iadd, 1) := by decide +kernel
theorem dX11_isSame_244 : decode cX11_isSame 244 = .ok (.iload 4, 2) := by decide +kernel
theorem dX11_isSame_246 : decode cX11_isSame 246 = .ok (.iadd, 1) := by decide +kernel
theorem dX11_isSame_247 : decode cX11_isSame 247 = .ok (.iaload, 1) := by decide +kernel
theorem dX11_isSame_248 : decode cX11_isSame 248 = .ok (.aload_n 0, 1) := by decide +kernel
theorem dX11_isSame_249 : decode cX11_isSame 249 = .ok (.getfield 7, 3) := by decide +kernel
theorem dX11_isSame_252 : decode cX11_isSame 252 = .ok (.bipush 16, 2) := by decide +kernel
theorem dX11_isSame_254 : decode cX11_isSame 254 = .ok (.iload_n 2, 1) := by decide +kernel
theorem dX11_isSame_255 : decode cX11_isSame 255 = .ok (.imul, 1) := by decide +kernel
theorem dX11_isSame_256 : decode cX11_isSame 256 = .ok (.bipush 6, 2) := by decide +kernel
theorem dX11_isSame_258 : decode cX11_isSame 258 = .ok (.iadd, 1) := by decide +kernel
theorem dX11_isSame_259 : decode cX11_isSame 259 = .ok (.iload 4, 2) := by decide +kernel
theorem dX11_isSame_261 : decode cX11_isSame 261 = .ok (.iadd, 1) := by decide +kernel
theorem dX11_isSame_262 : decode cX11_isSame 262 = .ok (.iaload, 1) := by decide +kernel
theorem dX11_isSame_263 : decode cX11_isSame 263 = .ok (.if_icmp .ne 7, 3) := by decide +kernel
theorem dX11_isSame_266 : decode cX11_isSame 266 = .ok (.iconst 1, 1) := by decide +kernel
theorem dX11_isSame_267 : decode cX11_isSame 267 = .ok (.goto 4, 3) := by decide +kernel
theorem dX11_isSame_270 : decode cX11_isSame 270 = .ok (.iconst 0, 1) := by decide +kernel
theorem dX11_isSame_271 : decode cX11_isSame 271 = .ok (.istore_n 3, 1) := by decide +kernel
theorem dX11_isSame_272 : decode cX11_isSame 272 = .ok (.iload_n 3, 1) := by decide +kernel
theorem dX11_isSame_273 : decode cX11_isSame 273 = .ok (.ifCond .eq 51, 3) := by decide +kernel
theorem dX11_isSame_276 : decode cX11_isSame 276 = .ok (.iload 4, 2) := by decide +kernel
theorem dX11_isSame_278 : decode cX11_isSame 278 = .ok (.aload_n 0, 1) := by decide +kernel
theorem dX11_isSame_279 : decode cX11_isSame 279 = .ok (.getfield 19, 3) := by decide +kernel
theorem dX11_isSame_282 : decode cX11_isSame 282 = .ok (.iload_n 1, 1) := by decide +kernel
theorem dX11_isSame_283 : decode cX11_isSame 283 = .ok (.iaload, 1) := by decide +kernel
theorem dX11_isSame_284 : decode cX11_isSame 284 = .ok (.if_icmp .ge 36, 3) := by decide +kernel
theorem dX11_isSame_287 : decode cX11_isSame 287 = .ok (.aload_n 0, 1) := by decide +kernel
theorem dX11_isSame_288 : decode cX11_isSame 288 = .ok (.getfield 7, 3) := by decide +kernel
theorem dX11_isSame_291 : decode cX11_isSame 291 = .ok (.bipush 16, 2) := by decide +kernel
theorem dX11_isSame_293 : decode cX11_isSame 293 = .ok (.iload_n 1, 1) := by decide +kernel
theorem dX11_isSame_294 : decode cX11_isSame 294 = .ok (.imul, 1) := by decide +kernel
theorem dX11_isSame_295 : decode cX11_isSame 295 = .ok (.bipush 11, 2) := by decide +kernel
theorem dX11_isSame_297 : decode cX11_isSame 297 = .ok (.iadd, 1) := by decide +kernel
theorem dX11_isSame_298 : decode cX11_isSame 298 = .ok (.iload 4, 2) := by decide +kernel
theorem dX11_isSame_300 : decode cX11_isSame 300 = .ok (.iadd, 1) := by decide +kernel
theorem dX11_isSame_301 : decode cX11_isSame 301 = .ok (.iaload, 1) := by decide +kernel
theorem dX11_isSame_302 : decode cX11_isSame 302 = .ok (.aload_n 0, 1) := by decide +kernel
theorem dX11_isSame_303 : decode cX11_isSame 303 = .ok (.getfield 7, 3) := by decide +kernel
theorem dX11_isSame_306 : decode cX11_isSame 306 = .ok (.bipush 16, 2) := by decide +kernel
theorem dX11_isSame_308 : decode cX11_isSame 308 = .ok (.iload_n 2, 1) := by decide +kernel
theorem dX11_isSame_309 : decode cX11_isSame 309 = .ok (.imul, 1) := by decide +kernel
theorem dX11_isSame_310 : decode cX11_isSame 310 = .ok (.bipush 11, 2) := by decide +kernel
theorem dX11_isSame_312 : decode cX11_isSame 312 = .ok (.iadd, 1) := by decide +kernel
theorem dX11_isSame_313 : decode cX11_isSame 313 = .ok (.iload 4, 2) := by decide +kernel
theorem dX11_isSame_315 : decode cX11_isSame 315 = .ok (.iadd, 1) := by decide +kernel
theorem dX11_isSame_316 : decode cX11_isSame 316 = .ok (.iaload, 1) := by decide +kernel
theorem dX11_isSame_317 : decode cX11_isSame 317 = .ok (.if_icmp .ne 7, 3) := by decide +kernel
theorem dX11_isSame_320 : decode cX11_isSame 320 = .ok (.iconst 1, 1) := by decide +kernel
theorem dX11_isSame_321 : decode cX11_isSame 321 = .ok (.goto 4, 3) := by decide +kernel
theorem dX11_isSame_324 : decode cX11_isSame 324 = .ok (.iconst 0, 1) := by decide +kernel
theorem dX11_isSame_325 : decode cX11_isSame 325 = .ok (.istore_n 3, 1) := by decide +kernel
theorem dX11_isSame_326 : decode cX11_isSame 326 = .ok (.iinc 4 1, 3) := by decide +kernel
theorem dX11_isSame_329 : decode cX11_isSame 329 = .ok (.goto (-169), 3) := by decide +kernel
theorem dX11_isSame_332 : decode cX11_isSame 332 = .ok (.iload_n 3, 1) := by decide +kernel
theorem dX11_isSame_333 : decode cX11_isSame 333 = .ok (.ireturn, 1) := by decide +kernel
set_option maxHeartbeats 4000000 in
set_option maxRecDepth 100000 in
theorem kX11_isSame (l : Launch) (z : Nat) (D : va_G) (cA : Nat → ClassId) (a0 : Nat) (x1 : Int32) (x2 : Int32) (M : Mem) (K : Int32 → Prop) (h : PX11_isSame a0 x1 x2 M K) : Met l yX11_isSame (.code yX11_isSame cX11_isSame 5 (some .boolean) :: gtbl) ({ frames := 0, cells := 0, slots := 0, locals := 0 } : Room) (va_Pc [.ref a0, .int x1, .int x2] (xB z D cA M)) (va_Qi (fun r M1 => M1 = M ∧ K r) (xWd z D cA) (xA z)) 0 0 (xA z) := by
  refine x_met (by decide +kernel) (Nat.le_of_ble_eq_true rfl) (L0 := [(0, .ref a0), (1, .int x1), (2, .int x2)]) rfl ?_
  intro p e s m args below meth c E hr hlk hnm
  have E : xE RX11 cX11_isSame 5 D cA p s m args c := E
  have hJ104 : ∀ (j0 : Nat) (j1 : Int32) (j2 : Int32) (s0 : Int32), JX11_isSame_104 K M j0 j1 j2 s0 → xG p l e ({ frames := 0, cells := 0, slots := 0, locals := 0 } : Room) s m args below meth c (MQ below (va_Qi (fun r M1 => M1 = M ∧ K r) (xWd z D cA) (xA z)) args s 0 0 (xA z)) 5 z D cA M (0) (0) 104 [(0, .ref j0), (1, .int j1), (2, .int j2)] [.int s0] := by
    intro j0 j1 j2 s0 h
    refine x_istore_n (L' := [(3, .int s0), (0, .ref j0), (1, .int j1), (2, .int j2)]) E dX11_isSame_104 rfl (by decide) rfl ?_
    refine x_iconst (v := (J 0)) E dX11_isSame_105 (by decide) ?_
    refine x_istore (L' := [(4, .int (J 0)), (3, .int s0), (0, .ref j0), (1, .int j1), (2, .int j2)]) E dX11_isSame_106 (by decide) rfl ?_
    refine x_sub (L' := [(0, .ref j0), (1, .int j1), (2, .int j2), (3, .int s0), (4, .int (J 0))]) [2, 3, 4, 1, 0] rfl ?_
    refine lp_sound (T := fun sv => xG p l e ({ frames := 0, cells := 0, slots := 0, locals := 0 } : Room) s m args below meth c (MQ below (va_Qi (fun r M1 => M1 = M ∧ K r) (xWd z D cA) (xA z)) args s 0 0 (xA z)) 5 z D cA M (0) (0) 108 [(0, .ref j0), (1, .int j1), (2, .int j2), (3, .int sv.1), (4, .int sv.2)] []) ?_ (s0, (J 0)) h
    clear h
    intro kc108 hk108 sv h
    obtain ⟨x3, x4⟩ := sv
    replace h : CX11_isSame_108 K M j0 j1 j2 kc108 x3 x4 := h
    try dsimp only
    refine x_iload E dX11_isSame_108 4 rfl ?_
    refine x_iconst (v := (J 2)) E dX11_isSame_110 (by decide) ?_
    refine x_icmp_ge (tgt := 157) E dX11_isSame_111 (by decide) (fun c6 => ?_) (fun c6 => ?_)
    · replace h := xbr_t h c6
      clear c6
      refine x_iconst (v := (J 0)) E dX11_isSame_157 (by decide) ?_
      refine x_istore (L' := [(4, .int (J 0)), (0, .ref j0), (1, .int j1), (2, .int j2), (3, .int x3)]) E dX11_isSame_158 (by decide) rfl ?_
      refine x_sub (L' := [(0, .ref j0), (1, .int j1), (2, .int j2), (3, .int x3), (4, .int (J 0))]) [1, 2, 3, 4, 0] rfl ?_
      refine lp_sound (T := fun sv => xG p l e ({ frames := 0, cells := 0, slots := 0, locals := 0 } : Room) s m args below meth c (MQ below (va_Qi (fun r M1 => M1 = M ∧ K r) (xWd z D cA) (xA z)) args s 0 0 (xA z)) 5 z D cA M (0) (0) 160 [(0, .ref j0), (1, .int j1), (2, .int j2), (3, .int sv.1), (4, .int sv.2)] []) ?_ (x3, (J 0)) h
      clear h
      intro kc160 hk160 sv h
      obtain ⟨x3, x4⟩ := sv
      replace h : CX11_isSame_160 K M j0 j1 j2 kc160 x3 x4 := h
      try dsimp only
      have hJ271 : ∀ (j4 : Int32) (s0 : Int32), JX11_isSame_271 K kc160 M j0 j1 j2 j4 s0 → xG p l e ({ frames := 0, cells := 0, slots := 0, locals := 0 } : Room) s m args below meth c (MQ below (va_Qi (fun r M1 => M1 = M ∧ K r) (xWd z D cA) (xA z)) args s 0 0 (xA z)) 5 z D cA M (0) (0) 271 [(0, .ref j0), (1, .int j1), (2, .int j2), (4, .int j4)] [.int s0] := by
        intro j4 s0 h
        refine x_istore_n (L' := [(3, .int s0), (0, .ref j0), (1, .int j1), (2, .int j2), (4, .int j4)]) E dX11_isSame_271 rfl (by decide) rfl ?_
        refine x_iload_n E dX11_isSame_272 rfl 0 rfl ?_
        refine x_if_eq (tgt := 324) E dX11_isSame_273 (by decide) (fun c10 => ?_) (fun c10 => ?_)
        · replace h := xbr_t h c10
          clear c10
          refine x_iconst (v := (J 0)) E dX11_isSame_324 (by decide) ?_
          refine x_istore_n (L' := [(3, .int (J 0)), (0, .ref j0), (1, .int j1), (2, .int j2), (4, .int j4)]) E dX11_isSame_325 rfl (by decide) rfl ?_
          refine x_iinc (v := (j4 + (J 1))) (L' := [(4, .int (j4 + (J 1))), (3, .int (J 0)), (0, .ref j0), (1, .int j1), (2, .int j2)]) E dX11_isSame_326 4 rfl rfl (by decide) rfl ?_
          refine x_goto (tgt := 160) E dX11_isSame_329 (by decide) ?_
          refine x_sub (L' := [(0, .ref j0), (1, .int j1), (2, .int j2), (3, .int (J 0)), (4, .int (j4 + (J 1)))]) [2, 3, 4, 1, 0] rfl ?_
          exact hk160 ((J 0), (j4 + (J 1))) h
        · replace h := xbr_f h c10
          clear c10
          refine x_iload E dX11_isSame_276 4 rfl ?_
          refine x_aload_n E dX11_isSame_278 rfl 1 rfl ?_
          obtain ⟨hT, q11, hv, h⟩ := h
          refine x_get E flX11_19 dX11_isSame_279 hT hv ?_
          clear hT hv
          refine x_iload_n E dX11_isSame_282 rfl 2 rfl ?_
          obtain ⟨hT, hi, v12, hv, h⟩ := h
          refine x_iald E dX11_isSame_283 hT hi hv ?_
          clear hT hi hv
          refine x_icmp_ge (tgt := 320) E dX11_isSame_284 (by decide) (fun c13 => ?_) (fun c13 => ?_)
          · replace h := xbr_t h c13
            clear c13
            refine x_iconst (v := (J 1)) E dX11_isSame_320 (by decide) ?_
            refine x_goto (tgt := 325) E dX11_isSame_321 (by decide) ?_
            refine x_istore_n (L' := [(3, .int (J 1)), (0, .ref j0), (1, .int j1), (2, .int j2), (4, .int j4)]) E dX11_isSame_325 rfl (by decide) rfl ?_
            refine x_iinc (v := (j4 + (J 1))) (L' := [(4, .int (j4 + (J 1))), (3, .int (J 1)), (0, .ref j0), (1, .int j1), (2, .int j2)]) E dX11_isSame_326 4 rfl rfl (by decide) rfl ?_
            refine x_goto (tgt := 160) E dX11_isSame_329 (by decide) ?_
            refine x_sub (L' := [(0, .ref j0), (1, .int j1), (2, .int j2), (3, .int (J 1)), (4, .int (j4 + (J 1)))]) [2, 3, 4, 1, 0] rfl ?_
            exact hk160 ((J 1), (j4 + (J 1))) h
          · replace h := xbr_f h c13
            clear c13
            refine x_aload_n E dX11_isSame_287 rfl 1 rfl ?_
            obtain ⟨hT, q14, hv, h⟩ := h
            refine x_get E flX11_7 dX11_isSame_288 hT hv ?_
            clear hT hv
            refine x_bipush (v := (J 16)) E dX11_isSame_291 (by decide) ?_
            refine x_iload_n E dX11_isSame_293 rfl 2 rfl ?_
            refine x_imul E dX11_isSame_294 ?_
            refine x_bipush (v := (J 11)) E dX11_isSame_295 (by decide) ?_
            refine x_iadd E dX11_isSame_297 ?_
            refine x_iload E dX11_isSame_298 4 rfl ?_
            refine x_iadd E dX11_isSame_300 ?_
            obtain ⟨hT, hi, v15, hv, h⟩ := h
            refine x_iald E dX11_isSame_301 hT hi hv ?_
            clear hT hi hv
            refine x_aload_n E dX11_isSame_302 rfl 1 rfl ?_
            obtain ⟨hT, q16, hv, h⟩ := h
            refine x_get E flX11_7 dX11_isSame_303 hT hv ?_
            clear hT hv
            refine x_bipush (v := (J 16)) E dX11_isSame_306 (by decide) ?_
            refine x_iload_n E dX11_isSame_308 rfl 3 rfl ?_
            refine x_imul E dX11_isSame_309 ?_
            refine x_bipush (v := (J 11)) E dX11_isSame_310 (by decide) ?_
            refine x_iadd E dX11_isSame_312 ?_
            refine x_iload E dX11_isSame_313 4 rfl ?_
            refine x_iadd E dX11_isSame_315 ?_
            obtain ⟨hT, hi, v17, hv, h⟩ := h
            refine x_iald E dX11_isSame_316 hT hi hv ?_
            clear hT hi hv
            refine x_icmp_ne (tgt := 324) E dX11_isSame_317 (by decide) (fun c18 => ?_) (fun c18 => ?_)
            · replace h := xbr_f h c18
              clear c18
              refine x_iconst (v := (J 0)) E dX11_isSame_324 (by decide) ?_
              refine x_istore_n (L' := [(3, .int (J 0)), (0, .ref j0), (1, .int j1), (2, .int j2), (4, .int j4)]) E dX11_isSame_325 rfl (by decide) rfl ?_
              refine x_iinc (v := (j4 + (J 1))) (L' := [(4, .int (j4 + (J 1))), (3, .int (J 0)), (0, .ref j0), (1, .int j1), (2, .int j2)]) E dX11_isSame_326 4 rfl rfl (by decide) rfl ?_
              refine x_goto (tgt := 160) E dX11_isSame_329 (by decide) ?_
              refine x_sub (L' := [(0, .ref j0), (1, .int j1), (2, .int j2), (3, .int (J 0)), (4, .int (j4 + (J 1)))]) [2, 3, 4, 1, 0] rfl ?_
              exact hk160 ((J 0), (j4 + (J 1))) h
            · replace h := xbr_t h c18
              clear c18
              refine x_iconst (v := (J 1)) E dX11_isSame_320 (by decide) ?_
              refine x_goto (tgt := 325) E dX11_isSame_321 (by decide) ?_
              refine x_istore_n (L' := [(3, .int (J 1)), (0, .ref j0), (1, .int j1), (2, .int j2), (4, .int j4)]) E dX11_isSame_325 rfl (by decide) rfl ?_
              refine x_iinc (v := (j4 + (J 1))) (L' := [(4, .int (j4 + (J 1))), (3, .int (J 1)), (0, .ref j0), (1, .int j1), (2, .int j2)]) E dX11_isSame_326 4 rfl rfl (by decide) rfl ?_
              refine x_goto (tgt := 160) E dX11_isSame_329 (by decide) ?_
              refine x_sub (L' := [(0, .ref j0), (1, .int j1), (2, .int j2), (3, .int (J 1)), (4, .int (j4 + (J 1)))]) [2, 3, 4, 1, 0] rfl ?_
              exact hk160 ((J 1), (j4 + (J 1))) h
      have hJ270 : ∀ (j4 : Int32), JX11_isSame_270 K kc160 M j0 j1 j2 j4 → xG p l e ({ frames := 0, cells := 0, slots := 0, locals := 0 } : Room) s m args below meth c (MQ below (va_Qi (fun r M1 => M1 = M ∧ K r) (xWd z D cA) (xA z)) args s 0 0 (xA z)) 5 z D cA M (0) (0) 270 [(0, .ref j0), (1, .int j1), (2, .int j2), (4, .int j4)] [] := by
        intro j4 h
        refine x_iconst (v := (J 0)) E dX11_isSame_270 (by decide) ?_
        exact hJ271 j4 (J 0) h
      have hJ266 : ∀ (j4 : Int32), JX11_isSame_266 K kc160 M j0 j1 j2 j4 → xG p l e ({ frames := 0, cells := 0, slots := 0, locals := 0 } : Room) s m args below meth c (MQ below (va_Qi (fun r M1 => M1 = M ∧ K r) (xWd z D cA) (xA z)) args s 0 0 (xA z)) 5 z D cA M (0) (0) 266 [(0, .ref j0), (1, .int j1), (2, .int j2), (4, .int j4)] [] := by
        intro j4 h
        refine x_iconst (v := (J 1)) E dX11_isSame_266 (by decide) ?_
        refine x_goto (tgt := 271) E dX11_isSame_267 (by decide) ?_
        exact hJ271 j4 (J 1) h
      have hJ217 : ∀ (j4 : Int32) (s0 : Int32), JX11_isSame_217 K kc160 M j0 j1 j2 j4 s0 → xG p l e ({ frames := 0, cells := 0, slots := 0, locals := 0 } : Room) s m args below meth c (MQ below (va_Qi (fun r M1 => M1 = M ∧ K r) (xWd z D cA) (xA z)) args s 0 0 (xA z)) 5 z D cA M (0) (0) 217 [(0, .ref j0), (1, .int j1), (2, .int j2), (4, .int j4)] [.int s0] := by
        intro j4 s0 h
        refine x_istore_n (L' := [(3, .int s0), (0, .ref j0), (1, .int j1), (2, .int j2), (4, .int j4)]) E dX11_isSame_217 rfl (by decide) rfl ?_
        refine x_iload_n E dX11_isSame_218 rfl 0 rfl ?_
        refine x_if_eq (tgt := 270) E dX11_isSame_219 (by decide) (fun c9 => ?_) (fun c9 => ?_)
        · replace h := xbr_t h c9
          clear c9
          refine x_sub (L' := [(0, .ref j0), (1, .int j1), (2, .int j2), (4, .int j4)]) [1, 2, 3, 4] rfl ?_
          exact hJ270 j4 h
        · replace h := xbr_f h c9
          clear c9
          refine x_iload E dX11_isSame_222 4 rfl ?_
          refine x_aload_n E dX11_isSame_224 rfl 1 rfl ?_
          obtain ⟨hT, q19, hv, h⟩ := h
          refine x_get E flX11_16 dX11_isSame_225 hT hv ?_
          clear hT hv
          refine x_iload_n E dX11_isSame_228 rfl 2 rfl ?_
          obtain ⟨hT, hi, v20, hv, h⟩ := h
          refine x_iald E dX11_isSame_229 hT hi hv ?_
          clear hT hi hv
          refine x_icmp_ge (tgt := 266) E dX11_isSame_230 (by decide) (fun c21 => ?_) (fun c21 => ?_)
          · replace h := xbr_t h c21
            clear c21
            refine x_sub (L' := [(0, .ref j0), (1, .int j1), (2, .int j2), (4, .int j4)]) [1, 2, 3, 4] rfl ?_
            exact hJ266 j4 h
          · replace h := xbr_f h c21
            clear c21
            refine x_aload_n E dX11_isSame_233 rfl 1 rfl ?_
            obtain ⟨hT, q22, hv, h⟩ := h
            refine x_get E flX11_7 dX11_isSame_234 hT hv ?_
            clear hT hv
            refine x_bipush (v := (J 16)) E dX11_isSame_237 (by decide) ?_
            refine x_iload_n E dX11_isSame_239 rfl 2 rfl ?_
            refine x_imul E dX11_isSame_240 ?_
            refine x_bipush (v := (J 6)) E dX11_isSame_241 (by decide) ?_
            refine x_iadd E dX11_isSame_243 ?_
            refine x_iload E dX11_isSame_244 4 rfl ?_
            refine x_iadd E dX11_isSame_246 ?_
            obtain ⟨hT, hi, v23, hv, h⟩ := h
            refine x_iald E dX11_isSame_247 hT hi hv ?_
            clear hT hi hv
            refine x_aload_n E dX11_isSame_248 rfl 1 rfl ?_
            obtain ⟨hT, q24, hv, h⟩ := h
            refine x_get E flX11_7 dX11_isSame_249 hT hv ?_
            clear hT hv
            refine x_bipush (v := (J 16)) E dX11_isSame_252 (by decide) ?_
            refine x_iload_n E dX11_isSame_254 rfl 3 rfl ?_
            refine x_imul E dX11_isSame_255 ?_
            refine x_bipush (v := (J 6)) E dX11_isSame_256 (by decide) ?_
            refine x_iadd E dX11_isSame_258 ?_
            refine x_iload E dX11_isSame_259 4 rfl ?_
            refine x_iadd E dX11_isSame_261 ?_
            obtain ⟨hT, hi, v25, hv, h⟩ := h
            refine x_iald E dX11_isSame_262 hT hi hv ?_
            clear hT hi hv
            refine x_icmp_ne (tgt := 270) E dX11_isSame_263 (by decide) (fun c26 => ?_) (fun c26 => ?_)
            · replace h := xbr_f h c26
              clear c26
              refine x_sub (L' := [(0, .ref j0), (1, .int j1), (2, .int j2), (4, .int j4)]) [1, 2, 3, 4] rfl ?_
              exact hJ270 j4 h
            · replace h := xbr_t h c26
              clear c26
              refine x_sub (L' := [(0, .ref j0), (1, .int j1), (2, .int j2), (4, .int j4)]) [1, 2, 3, 4] rfl ?_
              exact hJ266 j4 h
      have hJ216 : ∀ (j4 : Int32), JX11_isSame_216 K kc160 M j0 j1 j2 j4 → xG p l e ({ frames := 0, cells := 0, slots := 0, locals := 0 } : Room) s m args below meth c (MQ below (va_Qi (fun r M1 => M1 = M ∧ K r) (xWd z D cA) (xA z)) args s 0 0 (xA z)) 5 z D cA M (0) (0) 216 [(0, .ref j0), (1, .int j1), (2, .int j2), (4, .int j4)] [] := by
        intro j4 h
        refine x_iconst (v := (J 0)) E dX11_isSame_216 (by decide) ?_
        exact hJ217 j4 (J 0) h
      have hJ212 : ∀ (j4 : Int32), JX11_isSame_212 K kc160 M j0 j1 j2 j4 → xG p l e ({ frames := 0, cells := 0, slots := 0, locals := 0 } : Room) s m args below meth c (MQ below (va_Qi (fun r M1 => M1 = M ∧ K r) (xWd z D cA) (xA z)) args s 0 0 (xA z)) 5 z D cA M (0) (0) 212 [(0, .ref j0), (1, .int j1), (2, .int j2), (4, .int j4)] [] := by
        intro j4 h
        refine x_iconst (v := (J 1)) E dX11_isSame_212 (by decide) ?_
        refine x_goto (tgt := 217) E dX11_isSame_213 (by decide) ?_
        exact hJ217 j4 (J 1) h
      refine x_iload E dX11_isSame_160 4 rfl ?_
      refine x_iconst (v := (J 4)) E dX11_isSame_162 (by decide) ?_
      refine x_icmp_ge (tgt := 332) E dX11_isSame_163 (by decide) (fun c7 => ?_) (fun c7 => ?_)
      · replace h := xbr_t h c7
        clear c7
        refine x_iload_n E dX11_isSame_332 rfl 3 rfl ?_
        exact x_zret E hr hlk dX11_isSame_333 h.1 ⟨rfl, h.2⟩
      · replace h := xbr_f h c7
        clear c7
        refine x_iload_n E dX11_isSame_166 rfl 3 rfl ?_
        refine x_if_eq (tgt := 216) E dX11_isSame_167 (by decide) (fun c8 => ?_) (fun c8 => ?_)
        · replace h := xbr_t h c8
          clear c8
          refine x_sub (L' := [(0, .ref j0), (1, .int j1), (2, .int j2), (4, .int x4)]) [0, 1, 2, 4] rfl ?_
          exact hJ216 x4 h
        · replace h := xbr_f h c8
          clear c8
          refine x_iload E dX11_isSame_170 4 rfl ?_
          refine x_aload_n E dX11_isSame_172 rfl 0 rfl ?_
          obtain ⟨hT, q27, hv, h⟩ := h
          refine x_get E flX11_13 dX11_isSame_173 hT hv ?_
          clear hT hv
          refine x_iload_n E dX11_isSame_176 rfl 1 rfl ?_
          obtain ⟨hT, hi, v28, hv, h⟩ := h
          refine x_iald E dX11_isSame_177 hT hi hv ?_
          clear hT hi hv
          refine x_icmp_ge (tgt := 212) E dX11_isSame_178 (by decide) (fun c29 => ?_) (fun c29 => ?_)
          · replace h := xbr_t h c29
            clear c29
            refine x_sub (L' := [(0, .ref j0), (1, .int j1), (2, .int j2), (4, .int x4)]) [0, 1, 2, 4] rfl ?_
            exact hJ212 x4 h
          · replace h := xbr_f h c29
            clear c29
            refine x_aload_n E dX11_isSame_181 rfl 0 rfl ?_
            obtain ⟨hT, q30, hv, h⟩ := h
            refine x_get E flX11_7 dX11_isSame_182 hT hv ?_
            clear hT hv
            refine x_bipush (v := (J 16)) E dX11_isSame_185 (by decide) ?_
            refine x_iload_n E dX11_isSame_187 rfl 1 rfl ?_
            refine x_imul E dX11_isSame_188 ?_
            refine x_iconst (v := (J 2)) E dX11_isSame_189 (by decide) ?_
            refine x_iadd E dX11_isSame_190 ?_
            refine x_iload E dX11_isSame_191 4 rfl ?_
            refine x_iadd E dX11_isSame_193 ?_
            obtain ⟨hT, hi, v31, hv, h⟩ := h
            refine x_iald E dX11_isSame_194 hT hi hv ?_
            clear hT hi hv
            refine x_aload_n E dX11_isSame_195 rfl 0 rfl ?_
            obtain ⟨hT, q32, hv, h⟩ := h
            refine x_get E flX11_7 dX11_isSame_196 hT hv ?_
            clear hT hv
            refine x_bipush (v := (J 16)) E dX11_isSame_199 (by decide) ?_
            refine x_iload_n E dX11_isSame_201 rfl 2 rfl ?_
            refine x_imul E dX11_isSame_202 ?_
            refine x_iconst (v := (J 2)) E dX11_isSame_203 (by decide) ?_
            refine x_iadd E dX11_isSame_204 ?_
            refine x_iload E dX11_isSame_205 4 rfl ?_
            refine x_iadd E dX11_isSame_207 ?_
            obtain ⟨hT, hi, v33, hv, h⟩ := h
            refine x_iald E dX11_isSame_208 hT hi hv ?_
            clear hT hi hv
            refine x_icmp_ne (tgt := 216) E dX11_isSame_209 (by decide) (fun c34 => ?_) (fun c34 => ?_)
            · replace h := xbr_f h c34
              clear c34
              refine x_sub (L' := [(0, .ref j0), (1, .int j1), (2, .int j2), (4, .int x4)]) [0, 1, 2, 4] rfl ?_
              exact hJ216 x4 h
            · replace h := xbr_t h c34
              clear c34
              refine x_sub (L' := [(0, .ref j0), (1, .int j1), (2, .int j2), (4, .int x4)]) [0, 1, 2, 4] rfl ?_
              exact hJ212 x4 h
    · replace h := xbr_f h c6
      clear c6
      refine x_iload_n E dX11_isSame_114 rfl 3 rfl ?_
      refine x_if_eq (tgt := 149) E dX11_isSame_115 (by decide) (fun c35 => ?_) (fun c35 => ?_)
      · replace h := xbr_t h c35
        clear c35
        refine x_iconst (v := (J 0)) E dX11_isSame_149 (by decide) ?_
        refine x_istore_n (L' := [(3, .int (J 0)), (0, .ref j0), (1, .int j1), (2, .int j2), (4, .int x4)]) E dX11_isSame_150 rfl (by decide) rfl ?_
        refine x_iinc (v := (x4 + (J 1))) (L' := [(4, .int (x4 + (J 1))), (3, .int (J 0)), (0, .ref j0), (1, .int j1), (2, .int j2)]) E dX11_isSame_151 4 rfl rfl (by decide) rfl ?_
        refine x_goto (tgt := 108) E dX11_isSame_154 (by decide) ?_
        refine x_sub (L' := [(0, .ref j0), (1, .int j1), (2, .int j2), (3, .int (J 0)), (4, .int (x4 + (J 1)))]) [2, 3, 4, 1, 0] rfl ?_
        exact hk108 ((J 0), (x4 + (J 1))) h
      · replace h := xbr_f h c35
        clear c35
        refine x_aload_n E dX11_isSame_118 rfl 0 rfl ?_
        obtain ⟨hT, q36, hv, h⟩ := h
        refine x_get E flX11_7 dX11_isSame_119 hT hv ?_
        clear hT hv
        refine x_bipush (v := (J 16)) E dX11_isSame_122 (by decide) ?_
        refine x_iload_n E dX11_isSame_124 rfl 1 rfl ?_
        refine x_imul E dX11_isSame_125 ?_
        refine x_iload E dX11_isSame_126 4 rfl ?_
        refine x_iadd E dX11_isSame_128 ?_
        obtain ⟨hT, hi, v37, hv, h⟩ := h
        refine x_iald E dX11_isSame_129 hT hi hv ?_
        clear hT hi hv
        refine x_aload_n E dX11_isSame_130 rfl 0 rfl ?_
        obtain ⟨hT, q38, hv, h⟩ := h
        refine x_get E flX11_7 dX11_isSame_131 hT hv ?_
        clear hT hv
        refine x_bipush (v := (J 16)) E dX11_isSame_134 (by decide) ?_
        refine x_iload_n E dX11_isSame_136 rfl 2 rfl ?_
        refine x_imul E dX11_isSame_137 ?_
        refine x_iload E dX11_isSame_138 4 rfl ?_
        refine x_iadd E dX11_isSame_140 ?_
        obtain ⟨hT, hi, v39, hv, h⟩ := h
        refine x_iald E dX11_isSame_141 hT hi hv ?_
        clear hT hi hv
        refine x_icmp_ne (tgt := 149) E dX11_isSame_142 (by decide) (fun c40 => ?_) (fun c40 => ?_)
        · replace h := xbr_f h c40
          clear c40
          refine x_iconst (v := (J 0)) E dX11_isSame_149 (by decide) ?_
          refine x_istore_n (L' := [(3, .int (J 0)), (0, .ref j0), (1, .int j1), (2, .int j2), (4, .int x4)]) E dX11_isSame_150 rfl (by decide) rfl ?_
          refine x_iinc (v := (x4 + (J 1))) (L' := [(4, .int (x4 + (J 1))), (3, .int (J 0)), (0, .ref j0), (1, .int j1), (2, .int j2)]) E dX11_isSame_151 4 rfl rfl (by decide) rfl ?_
          refine x_goto (tgt := 108) E dX11_isSame_154 (by decide) ?_
          refine x_sub (L' := [(0, .ref j0), (1, .int j1), (2, .int j2), (3, .int (J 0)), (4, .int (x4 + (J 1)))]) [2, 3, 4, 1, 0] rfl ?_
          exact hk108 ((J 0), (x4 + (J 1))) h
        · replace h := xbr_t h c40
          clear c40
          refine x_iconst (v := (J 1)) E dX11_isSame_145 (by decide) ?_
          refine x_goto (tgt := 150) E dX11_isSame_146 (by decide) ?_
          refine x_istore_n (L' := [(3, .int (J 1)), (0, .ref j0), (1, .int j1), (2, .int j2), (4, .int x4)]) E dX11_isSame_150 rfl (by decide) rfl ?_
          refine x_iinc (v := (x4 + (J 1))) (L' := [(4, .int (x4 + (J 1))), (3, .int (J 1)), (0, .ref j0), (1, .int j1), (2, .int j2)]) E dX11_isSame_151 4 rfl rfl (by decide) rfl ?_
          refine x_goto (tgt := 108) E dX11_isSame_154 (by decide) ?_
          refine x_sub (L' := [(0, .ref j0), (1, .int j1), (2, .int j2), (3, .int (J 1)), (4, .int (x4 + (J 1)))]) [2, 3, 4, 1, 0] rfl ?_
          exact hk108 ((J 1), (x4 + (J 1))) h
  have hJ103 : ∀ (j0 : Nat) (j1 : Int32) (j2 : Int32), JX11_isSame_103 K M j0 j1 j2 → xG p l e ({ frames := 0, cells := 0, slots := 0, locals := 0 } : Room) s m args below meth c (MQ below (va_Qi (fun r M1 => M1 = M ∧ K r) (xWd z D cA) (xA z)) args s 0 0 (xA z)) 5 z D cA M (0) (0) 103 [(0, .ref j0), (1, .int j1), (2, .int j2)] [] := by
    intro j0 j1 j2 h
    refine x_iconst (v := (J 0)) E dX11_isSame_103 (by decide) ?_
    exact hJ104 j0 j1 j2 (J 0) h
  replace h := h.2
  refine x_aload_n E dX11_isSame_0 rfl 0 rfl ?_
  obtain ⟨hT, q1, hv, h⟩ := h
  refine x_get E flX11_13 dX11_isSame_1 hT hv ?_
  clear hT hv
  refine x_iload_n E dX11_isSame_4 rfl 1 rfl ?_
  obtain ⟨hT, hi, v2, hv, h⟩ := h
  refine x_iald E dX11_isSame_5 hT hi hv ?_
  clear hT hi hv
  refine x_aload_n E dX11_isSame_6 rfl 0 rfl ?_
  obtain ⟨hT, q3, hv, h⟩ := h
  refine x_get E flX11_13 dX11_isSame_7 hT hv ?_
  clear hT hv
  refine x_iload_n E dX11_isSame_10 rfl 2 rfl ?_
  obtain ⟨hT, hi, v4, hv, h⟩ := h
  refine x_iald E dX11_isSame_11 hT hi hv ?_
  clear hT hi hv
  refine x_icmp_ne (tgt := 103) E dX11_isSame_12 (by decide) (fun c5 => ?_) (fun c5 => ?_)
  · replace h := xbr_f h c5
    clear c5
    exact hJ103 a0 x1 x2 h
  · replace h := xbr_t h c5
    clear c5
    refine x_aload_n E dX11_isSame_15 rfl 0 rfl ?_
    obtain ⟨hT, q41, hv, h⟩ := h
    refine x_get E flX11_16 dX11_isSame_16 hT hv ?_
    clear hT hv
    refine x_iload_n E dX11_isSame_19 rfl 1 rfl ?_
    obtain ⟨hT, hi, v42, hv, h⟩ := h
    refine x_iald E dX11_isSame_20 hT hi hv ?_
    clear hT hi hv
    refine x_aload_n E dX11_isSame_21 rfl 0 rfl ?_
    obtain ⟨hT, q43, hv, h⟩ := h
    refine x_get E flX11_16 dX11_isSame_22 hT hv ?_
    clear hT hv
    refine x_iload_n E dX11_isSame_25 rfl 2 rfl ?_
    obtain ⟨hT, hi, v44, hv, h⟩ := h
    refine x_iald E dX11_isSame_26 hT hi hv ?_
    clear hT hi hv
    refine x_icmp_ne (tgt := 103) E dX11_isSame_27 (by decide) (fun c45 => ?_) (fun c45 => ?_)
    · replace h := xbr_f h c45
      clear c45
      exact hJ103 a0 x1 x2 h
    · replace h := xbr_t h c45
      clear c45
      refine x_aload_n E dX11_isSame_30 rfl 0 rfl ?_
      obtain ⟨hT, q46, hv, h⟩ := h
      refine x_get E flX11_19 dX11_isSame_31 hT hv ?_
      clear hT hv
      refine x_iload_n E dX11_isSame_34 rfl 1 rfl ?_
      obtain ⟨hT, hi, v47, hv, h⟩ := h
      refine x_iald E dX11_isSame_35 hT hi hv ?_
      clear hT hi hv
      refine x_aload_n E dX11_isSame_36 rfl 0 rfl ?_
      obtain ⟨hT, q48, hv, h⟩ := h
      refine x_get E flX11_19 dX11_isSame_37 hT hv ?_
      clear hT hv
      refine x_iload_n E dX11_isSame_40 rfl 2 rfl ?_
      obtain ⟨hT, hi, v49, hv, h⟩ := h
      refine x_iald E dX11_isSame_41 hT hi hv ?_
      clear hT hi hv
      refine x_icmp_ne (tgt := 103) E dX11_isSame_42 (by decide) (fun c50 => ?_) (fun c50 => ?_)
      · replace h := xbr_f h c50
        clear c50
        exact hJ103 a0 x1 x2 h
      · replace h := xbr_t h c50
        clear c50
        refine x_aload_n E dX11_isSame_45 rfl 0 rfl ?_
        obtain ⟨hT, q51, hv, h⟩ := h
        refine x_get E flX11_7 dX11_isSame_46 hT hv ?_
        clear hT hv
        refine x_bipush (v := (J 16)) E dX11_isSame_49 (by decide) ?_
        refine x_iload_n E dX11_isSame_51 rfl 1 rfl ?_
        refine x_imul E dX11_isSame_52 ?_
        refine x_bipush (v := (J 10)) E dX11_isSame_53 (by decide) ?_
        refine x_iadd E dX11_isSame_55 ?_
        obtain ⟨hT, hi, v52, hv, h⟩ := h
        refine x_iald E dX11_isSame_56 hT hi hv ?_
        clear hT hi hv
        refine x_aload_n E dX11_isSame_57 rfl 0 rfl ?_
        obtain ⟨hT, q53, hv, h⟩ := h
        refine x_get E flX11_7 dX11_isSame_58 hT hv ?_
        clear hT hv
        refine x_bipush (v := (J 16)) E dX11_isSame_61 (by decide) ?_
        refine x_iload_n E dX11_isSame_63 rfl 2 rfl ?_
        refine x_imul E dX11_isSame_64 ?_
        refine x_bipush (v := (J 10)) E dX11_isSame_65 (by decide) ?_
        refine x_iadd E dX11_isSame_67 ?_
        obtain ⟨hT, hi, v54, hv, h⟩ := h
        refine x_iald E dX11_isSame_68 hT hi hv ?_
        clear hT hi hv
        refine x_icmp_ne (tgt := 103) E dX11_isSame_69 (by decide) (fun c55 => ?_) (fun c55 => ?_)
        · replace h := xbr_f h c55
          clear c55
          exact hJ103 a0 x1 x2 h
        · replace h := xbr_t h c55
          clear c55
          refine x_aload_n E dX11_isSame_72 rfl 0 rfl ?_
          obtain ⟨hT, q56, hv, h⟩ := h
          refine x_get E flX11_7 dX11_isSame_73 hT hv ?_
          clear hT hv
          refine x_bipush (v := (J 16)) E dX11_isSame_76 (by decide) ?_
          refine x_iload_n E dX11_isSame_78 rfl 1 rfl ?_
          refine x_imul E dX11_isSame_79 ?_
          refine x_bipush (v := (J 15)) E dX11_isSame_80 (by decide) ?_
          refine x_iadd E dX11_isSame_82 ?_
          obtain ⟨hT, hi, v57, hv, h⟩ := h
          refine x_iald E dX11_isSame_83 hT hi hv ?_
          clear hT hi hv
          refine x_aload_n E dX11_isSame_84 rfl 0 rfl ?_
          obtain ⟨hT, q58, hv, h⟩ := h
          refine x_get E flX11_7 dX11_isSame_85 hT hv ?_
          clear hT hv
          refine x_bipush (v := (J 16)) E dX11_isSame_88 (by decide) ?_
          refine x_iload_n E dX11_isSame_90 rfl 2 rfl ?_
          refine x_imul E dX11_isSame_91 ?_
          refine x_bipush (v := (J 15)) E dX11_isSame_92 (by decide) ?_
          refine x_iadd E dX11_isSame_94 ?_
          obtain ⟨hT, hi, v59, hv, h⟩ := h
          refine x_iald E dX11_isSame_95 hT hi hv ?_
          clear hT hi hv
          refine x_icmp_ne (tgt := 103) E dX11_isSame_96 (by decide) (fun c60 => ?_) (fun c60 => ?_)
          · replace h := xbr_f h c60
            clear c60
            exact hJ103 a0 x1 x2 h
          · replace h := xbr_t h c60
            clear c60
            refine x_iconst (v := (J 1)) E dX11_isSame_99 (by decide) ?_
            refine x_goto (tgt := 104) E dX11_isSame_100 (by decide) ?_
            exact hJ104 a0 x1 x2 (J 1) h
theorem dX11_isTold_0 : decode cX11_isTold 0 = .ok (.iconst 0, 1) := by decide +kernel
theorem dX11_isTold_1 : decode cX11_isTold 1 = .ok (.istore_n 1, 1) := by decide +kernel
theorem dX11_isTold_2 : decode cX11_isTold 2 = .ok (.iconst 0, 1) := by decide +kernel
theorem dX11_isTold_3 : decode cX11_isTold 3 = .ok (.istore_n 2, 1) := by decide +kernel
theorem dX11_isTold_4 : decode cX11_isTold 4 = .ok (.iload_n 2, 1) := by decide +kernel
theorem dX11_isTold_5 : decode cX11_isTold 5 = .ok (.aload_n 0, 1) := by decide +kernel
theorem dX11_isTold_6 : decode cX11_isTold 6 = .ok (.getfield 122, 3) := by decide +kernel
theorem dX11_isTold_9 : decode cX11_isTold 9 = .ok (.if_icmp .ge 31, 3) := by decide +kernel
theorem dX11_isTold_12 : decode cX11_isTold 12 = .ok (.iload_n 1, 1) := by decide +kernel
theorem dX11_isTold_13 : decode cX11_isTold 13 = .ok (.ifCond .ne 15, 3) := by decide +kernel
theorem dX11_isTold_16 : decode cX11_isTold 16 = .ok (.aload_n 0, 1) := by decide +kernel
theorem dX11_isTold_17 : decode cX11_isTold 17 = .ok (.iload_n 2, 1) := by decide +kernel
theorem dX11_isTold_18 : decode cX11_isTold 18 = .ok (.aload_n 0, 1) := by decide +kernel
theorem dX11_isTold_19 : decode cX11_isTold 19 = .ok (.getfield 122, 3) := by decide +kernel
theorem dX11_isTold_22 : decode cX11_isTold 22 = .ok (.invokevirtual 138, 3) := by decide +kernel
theorem dX11_isTold_25 : decode cX11_isTold 25 = .ok (.ifCond .eq 7, 3) := by decide +kernel
theorem dX11_isTold_28 : decode cX11_isTold 28 = .ok (.iconst 1, 1) := by decide +kernel
theorem dX11_isTold_29 : decode cX11_isTold 29 = .ok (.goto 4, 3) := by decide +kernel
theorem dX11_isTold_32 : decode cX11_isTold 32 = .ok (.iconst 0, 1) := by decide +kernel
theorem dX11_isTold_33 : decode cX11_isTold 33 = .ok (.istore_n 1, 1) := by decide +kernel
theorem dX11_isTold_34 : decode cX11_isTold 34 = .ok (.iinc 2 1, 3) := by decide +kernel
theorem dX11_isTold_37 : decode cX11_isTold 37 = .ok (.goto (-33), 3) := by decide +kernel
theorem dX11_isTold_40 : decode cX11_isTold 40 = .ok (.iload_n 1, 1) := by decide +kernel
theorem dX11_isTold_41 : decode cX11_isTold 41 = .ok (.ireturn, 1) := by decide +kernel
set_option maxHeartbeats 4000000 in
set_option maxRecDepth 100000 in
theorem kX11_isTold (l : Launch) (z : Nat) (D : va_G) (cA : Nat → ClassId) (a0 : Nat) (M : Mem) (K : Int32 → Prop) (h : PX11_isTold a0 M K) : Met l yX11_isTold (.code yX11_isTold cX11_isTold 3 (some .boolean) :: gtbl) ({ frames := 1, cells := 0, slots := 0, locals := 24 } : Room) (va_Pc [.ref a0] (xB z D cA M)) (va_Qi (fun r M1 => M1 = M ∧ K r) (xWd z D cA) (xA z)) 0 0 (xA z) := by
  refine x_met (by decide +kernel) (Nat.le_of_ble_eq_true rfl) (L0 := [(0, .ref a0)]) rfl ?_
  intro p e s m args below meth c E hr hlk hnm
  have E : xE RX11 cX11_isTold 3 D cA p s m args c := E
  replace h := h.2
  refine x_iconst (v := (J 0)) E dX11_isTold_0 (by decide) ?_
  refine x_istore_n (L' := [(1, .int (J 0)), (0, .ref a0)]) E dX11_isTold_1 rfl (by decide) rfl ?_
  refine x_iconst (v := (J 0)) E dX11_isTold_2 (by decide) ?_
  refine x_istore_n (L' := [(2, .int (J 0)), (1, .int (J 0)), (0, .ref a0)]) E dX11_isTold_3 rfl (by decide) rfl ?_
  refine x_sub (L' := [(0, .ref a0), (1, .int (J 0)), (2, .int (J 0))]) [2, 1, 0] rfl ?_
  refine lp_sound (T := fun sv => xG p l e ({ frames := 1, cells := 0, slots := 0, locals := 24 } : Room) s m args below meth c (MQ below (va_Qi (fun r M1 => M1 = M ∧ K r) (xWd z D cA) (xA z)) args s 0 0 (xA z)) 3 z D cA M (0) (0) 4 [(0, .ref a0), (1, .int sv.1), (2, .int sv.2)] []) ?_ ((J 0), (J 0)) h
  clear h
  intro kc4 hk4 sv h
  obtain ⟨x1, x2⟩ := sv
  replace h : CX11_isTold_4 K M a0 kc4 x1 x2 := h
  try dsimp only
  refine x_iload_n E dX11_isTold_4 rfl 2 rfl ?_
  refine x_aload_n E dX11_isTold_5 rfl 0 rfl ?_
  obtain ⟨hT, v1, hv, h⟩ := h
  refine x_get E flX11_122 dX11_isTold_6 hT hv ?_
  clear hT hv
  refine x_icmp_ge (tgt := 40) E dX11_isTold_9 (by decide) (fun c2 => ?_) (fun c2 => ?_)
  · replace h := xbr_t h c2
    clear c2
    refine x_iload_n E dX11_isTold_40 rfl 1 rfl ?_
    exact x_zret E hr hlk dX11_isTold_41 h.1 ⟨rfl, h.2⟩
  · replace h := xbr_f h c2
    clear c2
    refine x_iload_n E dX11_isTold_12 rfl 1 rfl ?_
    refine x_if_ne (tgt := 28) E dX11_isTold_13 (by decide) (fun c3 => ?_) (fun c3 => ?_)
    · replace h := xbr_f h c3
      clear c3
      refine x_iconst (v := (J 1)) E dX11_isTold_28 (by decide) ?_
      refine x_goto (tgt := 33) E dX11_isTold_29 (by decide) ?_
      refine x_istore_n (L' := [(1, .int (J 1)), (0, .ref a0), (2, .int x2)]) E dX11_isTold_33 rfl (by decide) rfl ?_
      refine x_iinc (v := (x2 + (J 1))) (L' := [(2, .int (x2 + (J 1))), (1, .int (J 1)), (0, .ref a0)]) E dX11_isTold_34 2 rfl rfl (by decide) rfl ?_
      refine x_goto (tgt := 4) E dX11_isTold_37 (by decide) ?_
      refine x_sub (L' := [(0, .ref a0), (1, .int (J 1)), (2, .int (x2 + (J 1)))]) [2, 1, 0] rfl ?_
      exact hk4 ((J 1), (x2 + (J 1))) h
    · replace h := xbr_t h c3
      clear c3
      refine x_aload_n E dX11_isTold_16 rfl 0 rfl ?_
      refine x_iload_n E dX11_isTold_17 rfl 2 rfl ?_
      refine x_aload_n E dX11_isTold_18 rfl 0 rfl ?_
      obtain ⟨hT, v4, hv, h⟩ := h
      refine x_get E flX11_122 dX11_isTold_19 hT hv ?_
      clear hT hv
      refine x_callVi (T := TX11) (N := 32) (t := 12) (As := [.int x2, .int v4]) E mlX11_138 inX11_isSame seX11_isSame rfl ⟨by decide, by decide⟩ (tX11_isSame h) (kX11_isSame l z D cA a0 x2 v4 M _ h) rfl ⟨rfl, rfl⟩ ⟨Nat.le_of_ble_eq_true rfl, Nat.le_of_ble_eq_true rfl⟩ ⟨(Nat.le_of_ble_eq_true rfl), (Nat.le_of_ble_eq_true rfl)⟩ (Nat.le_of_ble_eq_true rfl) rfl dX11_isTold_22 (x_pure (fun r5 h => ?_))
      refine x_if_eq (tgt := 32) E dX11_isTold_25 (by decide) (fun c7 => ?_) (fun c7 => ?_)
      · replace h := xbr_t h c7
        clear c7
        refine x_iconst (v := (J 0)) E dX11_isTold_32 (by decide) ?_
        refine x_istore_n (L' := [(1, .int (J 0)), (0, .ref a0), (2, .int x2)]) E dX11_isTold_33 rfl (by decide) rfl ?_
        refine x_iinc (v := (x2 + (J 1))) (L' := [(2, .int (x2 + (J 1))), (1, .int (J 0)), (0, .ref a0)]) E dX11_isTold_34 2 rfl rfl (by decide) rfl ?_
        refine x_goto (tgt := 4) E dX11_isTold_37 (by decide) ?_
        refine x_sub (L' := [(0, .ref a0), (1, .int (J 0)), (2, .int (x2 + (J 1)))]) [2, 1, 0] rfl ?_
        exact hk4 ((J 0), (x2 + (J 1))) h
      · replace h := xbr_f h c7
        clear c7
        refine x_iconst (v := (J 1)) E dX11_isTold_28 (by decide) ?_
        refine x_goto (tgt := 33) E dX11_isTold_29 (by decide) ?_
        refine x_istore_n (L' := [(1, .int (J 1)), (0, .ref a0), (2, .int x2)]) E dX11_isTold_33 rfl (by decide) rfl ?_
        refine x_iinc (v := (x2 + (J 1))) (L' := [(2, .int (x2 + (J 1))), (1, .int (J 1)), (0, .ref a0)]) E dX11_isTold_34 2 rfl rfl (by decide) rfl ?_
        refine x_goto (tgt := 4) E dX11_isTold_37 (by decide) ?_
        refine x_sub (L' := [(0, .ref a0), (1, .int (J 1)), (2, .int (x2 + (J 1)))]) [2, 1, 0] rfl ?_
        exact hk4 ((J 1), (x2 + (J 1))) h
theorem dX11_takeBook_0 : decode cX11_takeBook 0 = .ok (.bipush 16, 2) := by decide +kernel
theorem dX11_takeBook_2 : decode cX11_takeBook 2 = .ok (.aload_n 0, 1) := by decide +kernel
theorem dX11_takeBook_3 : decode cX11_takeBook 3 = .ok (.getfield 122, 3) := by decide +kernel
theorem dX11_takeBook_6 : decode cX11_takeBook 6 = .ok (.imul, 1) := by decide +kernel
theorem dX11_takeBook_7 : decode cX11_takeBook 7 = .ok (.istore_n 1, 1) := by decide +kernel
theorem dX11_takeBook_8 : decode cX11_takeBook 8 = .ok (.aload_n 0, 1) := by decide +kernel
theorem dX11_takeBook_9 : decode cX11_takeBook 9 = .ok (.aload_n 0, 1) := by decide +kernel
theorem dX11_takeBook_10 : decode cX11_takeBook 10 = .ok (.getfield 122, 3) := by decide +kernel
theorem dX11_takeBook_13 : decode cX11_takeBook 13 = .ok (.bipush 24, 2) := by decide +kernel
theorem dX11_takeBook_15 : decode cX11_takeBook 15 = .ok (.if_icmp .ge 7, 3) := by decide +kernel
theorem dX11_takeBook_18 : decode cX11_takeBook 18 = .ok (.iload_n 1, 1) := by decide +kernel
theorem dX11_takeBook_19 : decode cX11_takeBook 19 = .ok (.goto 4, 3) := by decide +kernel
theorem dX11_takeBook_22 : decode cX11_takeBook 22 = .ok (.iconst 0, 1) := by decide +kernel
theorem dX11_takeBook_23 : decode cX11_takeBook 23 = .ok (.invokevirtual 142, 3) := by decide +kernel
theorem dX11_takeBook_26 : decode cX11_takeBook 26 = .ok (.istore_n 2, 1) := by decide +kernel
theorem dX11_takeBook_27 : decode cX11_takeBook 27 = .ok (.iload_n 2, 1) := by decide +kernel
theorem dX11_takeBook_28 : decode cX11_takeBook 28 = .ok (.ifCond .le 7, 3) := by decide +kernel
theorem dX11_takeBook_31 : decode cX11_takeBook 31 = .ok (.iload_n 2, 1) := by decide +kernel
theorem dX11_takeBook_32 : decode cX11_takeBook 32 = .ok (.goto 10, 3) := by decide +kernel
theorem dX11_takeBook_35 : decode cX11_takeBook 35 = .ok (.aload_n 0, 1) := by decide +kernel
theorem dX11_takeBook_36 : decode cX11_takeBook 36 = .ok (.iload_n 1, 1) := by decide +kernel
theorem dX11_takeBook_37 : decode cX11_takeBook 37 = .ok (.iconst 2, 1) := by decide +kernel
theorem dX11_takeBook_38 : decode cX11_takeBook 38 = .ok (.iadd, 1) := by decide +kernel
theorem dX11_takeBook_39 : decode cX11_takeBook 39 = .ok (.invokevirtual 125, 3) := by decide +kernel
theorem dX11_takeBook_42 : decode cX11_takeBook 42 = .ok (.istore_n 2, 1) := by decide +kernel
theorem dX11_takeBook_43 : decode cX11_takeBook 43 = .ok (.iload_n 2, 1) := by decide +kernel
theorem dX11_takeBook_44 : decode cX11_takeBook 44 = .ok (.ifCond .le 5, 3) := by decide +kernel
theorem dX11_takeBook_47 : decode cX11_takeBook 47 = .ok (.iload_n 2, 1) := by decide +kernel
theorem dX11_takeBook_48 : decode cX11_takeBook 48 = .ok (.ireturn, 1) := by decide +kernel
theorem dX11_takeBook_49 : decode cX11_takeBook 49 = .ok (.aload_n 0, 1) := by decide +kernel
theorem dX11_takeBook_50 : decode cX11_takeBook 50 = .ok (.getfield 13, 3) := by decide +kernel
theorem dX11_takeBook_53 : decode cX11_takeBook 53 = .ok (.aload_n 0, 1) := by decide +kernel
theorem dX11_takeBook_54 : decode cX11_takeBook 54 = .ok (.getfield 122, 3) := by decide +kernel
theorem dX11_takeBook_57 : decode cX11_takeBook 57 = .ok (.aload_n 0, 1) := by decide +kernel
theorem dX11_takeBook_58 : decode cX11_takeBook 58 = .ok (.getfield 108, 3) := by decide +kernel
theorem dX11_takeBook_61 : decode cX11_takeBook 61 = .ok (.iastore, 1) := by decide +kernel
theorem dX11_takeBook_62 : decode cX11_takeBook 62 = .ok (.aload_n 0, 1) := by decide +kernel
theorem dX11_takeBook_63 : decode cX11_takeBook 63 = .ok (.iload_n 1, 1) := by decide +kernel
theorem dX11_takeBook_64 : decode cX11_takeBook 64 = .ok (.invokevirtual 145, 3) := by decide +kernel
theorem dX11_takeBook_67 : decode cX11_takeBook 67 = .ok (.istore_n 2, 1) := by decide +kernel
theorem dX11_takeBook_68 : decode cX11_takeBook 68 = .ok (.aload_n 0, 1) := by decide +kernel
theorem dX11_takeBook_69 : decode cX11_takeBook 69 = .ok (.getfield 7, 3) := by decide +kernel
theorem dX11_takeBook_72 : decode cX11_takeBook 72 = .ok (.iload_n 1, 1) := by decide +kernel
theorem dX11_takeBook_73 : decode cX11_takeBook 73 = .ok (.bipush 15, 2) := by decide +kernel
theorem dX11_takeBook_75 : decode cX11_takeBook 75 = .ok (.iadd, 1) := by decide +kernel
theorem dX11_takeBook_76 : decode cX11_takeBook 76 = .ok (.iconst (-1), 1) := by decide +kernel
theorem dX11_takeBook_77 : decode cX11_takeBook 77 = .ok (.iastore, 1) := by decide +kernel
theorem dX11_takeBook_78 : decode cX11_takeBook 78 = .ok (.aload_n 0, 1) := by decide +kernel
theorem dX11_takeBook_79 : decode cX11_takeBook 79 = .ok (.getfield 22, 3) := by decide +kernel
theorem dX11_takeBook_82 : decode cX11_takeBook 82 = .ok (.aload_n 0, 1) := by decide +kernel
theorem dX11_takeBook_83 : decode cX11_takeBook 83 = .ok (.getfield 122, 3) := by decide +kernel
theorem dX11_takeBook_86 : decode cX11_takeBook 86 = .ok (.iconst 2, 1) := by decide +kernel
theorem dX11_takeBook_87 : decode cX11_takeBook 87 = .ok (.iastore, 1) := by decide +kernel
theorem dX11_takeBook_88 : decode cX11_takeBook 88 = .ok (.aload_n 0, 1) := by decide +kernel
theorem dX11_takeBook_89 : decode cX11_takeBook 89 = .ok (.invokevirtual 96, 3) := by decide +kernel
theorem dX11_takeBook_92 : decode cX11_takeBook 92 = .ok (.bipush 32, 2) := by decide +kernel
theorem dX11_takeBook_94 : decode cX11_takeBook 94 = .ok (.if_icmp .ne 7, 3) := by decide +kernel
theorem dX11_takeBook_97 : decode cX11_takeBook 97 = .ok (.iconst 1, 1) := by decide +kernel
theorem dX11_takeBook_98 : decode cX11_takeBook 98 = .ok (.goto 4, 3) := by decide +kernel
theorem dX11_takeBook_101 : decode cX11_takeBook 101 = .ok (.iconst 0, 1) := by decide +kernel
theorem dX11_takeBook_102 : decode cX11_takeBook 102 = .ok (.istore_n 3, 1) := by decide +kernel
theorem dX11_takeBook_103 : decode cX11_takeBook 103 = .ok (.iload_n 2, 1) := by decide +kernel
theorem dX11_takeBook_104 : decode cX11_takeBook 104 = .ok (.ifCond .ne 37, 3) := by decide +kernel
theorem dX11_takeBook_107 : decode cX11_takeBook 107 = .ok (.aload_n 0, 1) := by decide +kernel
theorem dX11_takeBook_108 : decode cX11_takeBook 108 = .ok (.invokevirtual 148, 3) := by decide +kernel
theorem dX11_takeBook_111 : decode cX11_takeBook 111 = .ok (.bipush 121, 2) := by decide +kernel
theorem dX11_takeBook_113 : decode cX11_takeBook 113 = .ok (.if_icmp .ne 28, 3) := by decide +kernel
theorem dX11_takeBook_116 : decode cX11_takeBook 116 = .ok (.iload_n 3, 1) := by decide +kernel
theorem dX11_takeBook_117 : decode cX11_takeBook 117 = .ok (.ifCond .eq 24, 3) := by decide +kernel
theorem dX11_takeBook_120 : decode cX11_takeBook 120 = .ok (.aload_n 0, 1) := by decide +kernel
theorem dX11_takeBook_121 : decode cX11_takeBook 121 = .ok (.iload_n 1, 1) := by decide +kernel
theorem dX11_takeBook_122 : decode cX11_takeBook 122 = .ok (.invokevirtual 151, 3) := by decide +kernel
theorem dX11_takeBook_125 : decode cX11_takeBook 125 = .ok (.istore_n 2, 1) := by decide +kernel
theorem dX11_takeBook_126 : decode cX11_takeBook 126 = .ok (.aload_n 0, 1) := by decide +kernel
theorem dX11_takeBook_127 : decode cX11_takeBook 127 = .ok (.invokevirtual 96, 3) := by decide +kernel
theorem dX11_takeBook_130 : decode cX11_takeBook 130 = .ok (.bipush 32, 2) := by decide +kernel
theorem dX11_takeBook_132 : decode cX11_takeBook 132 = .ok (.if_icmp .ne 7, 3) := by decide +kernel
theorem dX11_takeBook_135 : decode cX11_takeBook 135 = .ok (.iconst 1, 1) := by decide +kernel
theorem dX11_takeBook_136 : decode cX11_takeBook 136 = .ok (.goto 4, 3) := by decide +kernel
theorem dX11_takeBook_139 : decode cX11_takeBook 139 = .ok (.iconst 0, 1) := by decide +kernel
theorem dX11_takeBook_140 : decode cX11_takeBook 140 = .ok (.istore_n 3, 1) := by decide +kernel
theorem dX11_takeBook_141 : decode cX11_takeBook 141 = .ok (.iload_n 2, 1) := by decide +kernel
theorem dX11_takeBook_142 : decode cX11_takeBook 142 = .ok (.ifCond .ne 21, 3) := by decide +kernel
theorem dX11_takeBook_145 : decode cX11_takeBook 145 = .ok (.aload_n 0, 1) := by decide +kernel
theorem dX11_takeBook_146 : decode cX11_takeBook 146 = .ok (.invokevirtual 148, 3) := by decide +kernel
theorem dX11_takeBook_149 : decode cX11_takeBook 149 = .ok (.bipush 119, 2) := by decide +kernel
theorem dX11_takeBook_151 : decode cX11_takeBook 151 = .ok (.if_icmp .ne 12, 3) := by decide +kernel
theorem dX11_takeBook_154 : decode cX11_takeBook 154 = .ok (.iload_n 3, 1) := by decide +kernel
theorem dX11_takeBook_155 : decode cX11_takeBook 155 = .ok (.ifCond .eq 8, 3) := by decide +kernel
theorem dX11_takeBook_158 : decode cX11_takeBook 158 = .ok (.aload_n 0, 1) := by decide +kernel
theorem dX11_takeBook_159 : decode cX11_takeBook 159 = .ok (.invokevirtual 154, 3) := by decide +kernel
theorem dX11_takeBook_162 : decode cX11_takeBook 162 = .ok (.istore_n 2, 1) := by decide +kernel
theorem dX11_takeBook_163 : decode cX11_takeBook 163 = .ok (.iload_n 2, 1) := by decide +kernel
theorem dX11_takeBook_164 : decode cX11_takeBook 164 = .ok (.ifCond .le 5, 3) := by decide +kernel
theorem dX11_takeBook_167 : decode cX11_takeBook 167 = .ok (.iload_n 2, 1) := by decide +kernel
theorem dX11_takeBook_168 : decode cX11_takeBook 168 = .ok (.ireturn, 1) := by decide +kernel
theorem dX11_takeBook_169 : decode cX11_takeBook 169 = .ok (.aload_n 0, 1) := by decide +kernel
theorem dX11_takeBook_170 : decode cX11_takeBook 170 = .ok (.invokevirtual 148, 3) := by decide +kernel
theorem dX11_takeBook_173 : decode cX11_takeBook 173 = .ok (.bipush 59, 2) := by decide +kernel
theorem dX11_takeBook_175 : decode cX11_takeBook 175 = .ok (.if_icmp .eq 13, 3) := by decide +kernel
theorem dX11_takeBook_178 : decode cX11_takeBook 178 = .ok (.aload_n 0, 1) := by decide +kernel
theorem dX11_takeBook_179 : decode cX11_takeBook 179 = .ok (.iconst 1, 1) := by decide +kernel
theorem dX11_takeBook_180 : decode cX11_takeBook 180 = .ok (.aload_n 0, 1) := by decide +kernel
theorem dX11_takeBook_181 : decode cX11_takeBook 181 = .ok (.getfield 93, 3) := by decide +kernel
theorem dX11_takeBook_184 : decode cX11_takeBook 184 = .ok (.invokevirtual 115, 3) := by decide +kernel
theorem dX11_takeBook_187 : decode cX11_takeBook 187 = .ok (.ireturn, 1) := by decide +kernel
theorem dX11_takeBook_188 : decode cX11_takeBook 188 = .ok (.aload_n 0, 1) := by decide +kernel
theorem dX11_takeBook_189 : decode cX11_takeBook 189 = .ok (.invokevirtual 157, 3) := by decide +kernel
theorem dX11_takeBook_192 : decode cX11_takeBook 192 = .ok (.ifCond .eq 13, 3) := by decide +kernel
theorem dX11_takeBook_195 : decode cX11_takeBook 195 = .ok (.aload_n 0, 1) := by decide +kernel
theorem dX11_takeBook_196 : decode cX11_takeBook 196 = .ok (.iconst 5, 1) := by decide +kernel
theorem dX11_takeBook_197 : decode cX11_takeBook 197 = .ok (.aload_n 0, 1) := by decide +kernel
theorem dX11_takeBook_198 : decode cX11_takeBook 198 = .ok (.getfield 93, 3) := by decide +kernel
theorem dX11_takeBook_201 : decode cX11_takeBook 201 = .ok (.invokevirtual 115, 3) := by decide +kernel
theorem dX11_takeBook_204 : decode cX11_takeBook 204 = .ok (.ireturn, 1) := by decide +kernel
theorem dX11_takeBook_205 : decode cX11_takeBook 205 = .ok (.aload_n 0, 1) := by decide +kernel
theorem dX11_takeBook_206 : decode cX11_takeBook 206 = .ok (.dup, 1) := by decide +kernel
theorem dX11_takeBook_207 : decode cX11_takeBook 207 = .ok (.getfield 93, 3) := by decide +kernel
theorem dX11_takeBook_210 : decode cX11_takeBook 210 = .ok (.iconst 1, 1) := by decide +kernel
theorem dX11_takeBook_211 : decode cX11_takeBook 211 = .ok (.iadd, 1) := by decide +kernel
theorem dX11_takeBook_212 : decode cX11_takeBook 212 = .ok (.putfield 93, 3) := by decide +kernel
theorem dX11_takeBook_215 : decode cX11_takeBook 215 = .ok (.aload_n 0, 1) := by decide +kernel
theorem dX11_takeBook_216 : decode cX11_takeBook 216 = .ok (.dup, 1) := by decide +kernel
theorem dX11_takeBook_217 : decode cX11_takeBook 217 = .ok (.getfield 122, 3) := by decide +kernel
theorem dX11_takeBook_220 : decode cX11_takeBook 220 = .ok (.iconst 1, 1) := by decide +kernel
theorem dX11_takeBook_221 : decode cX11_takeBook 221 = .ok (.iadd, 1) := by decide +kernel
theorem dX11_takeBook_222 : decode cX11_takeBook 222 = .ok (.putfield 122, 3) := by decide +kernel
theorem dX11_takeBook_225 : decode cX11_takeBook 225 = .ok (.iconst 0, 1) := by decide +kernel
theorem dX11_takeBook_226 : decode cX11_takeBook 226 = .ok (.ireturn, 1) := by decide +kernel
set_option maxHeartbeats 4000000 in
set_option maxRecDepth 100000 in
theorem kX11_takeBook (l : Launch) (z : Nat) (D : va_G) (cA : Nat → ClassId) (a0 : Nat) (M : Mem) (K : Int32 → Mem → Prop) (h : PX11_takeBook a0 M K) : Met l yX11_takeBook (.code yX11_takeBook cX11_takeBook 4 (some .int) :: gtbl) ({ frames := 5, cells := 0, slots := 0, locals := 111 } : Room) (va_Pc [.ref a0] (xB z D cA M)) (va_Qi K (xWd z D cA) (xA z)) 0 0 (xA z) := by
  refine x_met (by decide +kernel) (Nat.le_of_ble_eq_true rfl) (L0 := [(0, .ref a0)]) rfl ?_
  intro p e s m args below meth c E hr hlk hnm
  have E : xE RX11 cX11_takeBook 4 D cA p s m args c := E
  have hJ163 : ∀ (M : Mem) (j0 : Nat) (j2 : Int32), JX11_takeBook_163 K M j0 j2 → xG p l e ({ frames := 5, cells := 0, slots := 0, locals := 111 } : Room) s m args below meth c (MQ below (va_Qi K (xWd z D cA) (xA z)) args s 0 0 (xA z)) 4 z D cA M (0) (0) 163 [(0, .ref j0), (2, .int j2)] [] := by
    intro M j0 j2 h
    refine x_iload_n E dX11_takeBook_163 rfl 1 rfl ?_
    refine x_if_le (tgt := 169) E dX11_takeBook_164 (by decide) (fun c27 => ?_) (fun c27 => ?_)
    · replace h := xbr_t h c27
      clear c27
      refine x_aload_n E dX11_takeBook_169 rfl 0 rfl ?_
      refine x_callVi (T := TX11) (N := 32) (t := 12) (As := []) E mlX11_148 inX11_here seX11_here rfl ⟨by decide, by decide⟩ (tX11_here h) (kX11_here l z D cA j0 M _ h) rfl ⟨rfl, rfl⟩ ⟨Nat.le_of_ble_eq_true rfl, Nat.le_of_ble_eq_true rfl⟩ ⟨(Nat.le_of_ble_eq_true rfl), (Nat.le_of_ble_eq_true rfl)⟩ (Nat.le_of_ble_eq_true rfl) rfl dX11_takeBook_170 (fun r28 M29 h => ?_)
      refine x_bipush (v := (J 59)) E dX11_takeBook_173 (by decide) ?_
      refine x_icmp_eq (tgt := 188) E dX11_takeBook_175 (by decide) (fun c30 => ?_) (fun c30 => ?_)
      · replace h := xbr_t h c30
        clear c30
        refine x_aload_n E dX11_takeBook_188 rfl 0 rfl ?_
        refine x_callVi (T := TX11) (N := 32) (t := 12) (As := []) E mlX11_157 inX11_isTold seX11_isTold rfl ⟨by decide, by decide⟩ (tX11_isTold h) (kX11_isTold l z D cA j0 M29 _ h) rfl ⟨rfl, rfl⟩ ⟨Nat.le_of_ble_eq_true rfl, Nat.le_of_ble_eq_true rfl⟩ ⟨(Nat.le_of_ble_eq_true rfl), (Nat.le_of_ble_eq_true rfl)⟩ (Nat.le_of_ble_eq_true rfl) rfl dX11_takeBook_189 (x_pure (fun r31 h => ?_))
        refine x_if_eq (tgt := 205) E dX11_takeBook_192 (by decide) (fun c33 => ?_) (fun c33 => ?_)
        · replace h := xbr_t h c33
          clear c33
          refine x_aload_n E dX11_takeBook_205 rfl 0 rfl ?_
          refine x_dup E dX11_takeBook_206 rfl ?_
          obtain ⟨hT, v34, hv, h⟩ := h
          refine x_get E flX11_93 dX11_takeBook_207 hT hv ?_
          clear hT hv
          refine x_iconst (v := (J 1)) E dX11_takeBook_210 (by decide) ?_
          refine x_iadd E dX11_takeBook_211 ?_
          obtain ⟨hT, h⟩ := h
          refine x_put E flX11_93 ⟨tyX11_ok, nmX11, rfl⟩ (by decide +kernel) rfl rfl dX11_takeBook_212 hT (fun M35 eM35 => ?_)
          replace h := h M35 eM35
          clear hT eM35
          refine x_aload_n E dX11_takeBook_215 rfl 0 rfl ?_
          refine x_dup E dX11_takeBook_216 rfl ?_
          obtain ⟨hT, v36, hv, h⟩ := h
          refine x_get E flX11_122 dX11_takeBook_217 hT hv ?_
          clear hT hv
          refine x_iconst (v := (J 1)) E dX11_takeBook_220 (by decide) ?_
          refine x_iadd E dX11_takeBook_221 ?_
          obtain ⟨hT, h⟩ := h
          refine x_put E flX11_122 ⟨tyX11_ok, nmX11, rfl⟩ (by decide +kernel) rfl rfl dX11_takeBook_222 hT (fun M37 eM37 => ?_)
          replace h := h M37 eM37
          clear hT eM37
          refine x_iconst (v := (J 0)) E dX11_takeBook_225 (by decide) ?_
          exact x_iret E hr hlk dX11_takeBook_226 h
        · replace h := xbr_f h c33
          clear c33
          refine x_aload_n E dX11_takeBook_195 rfl 0 rfl ?_
          refine x_iconst (v := (J 5)) E dX11_takeBook_196 (by decide) ?_
          refine x_aload_n E dX11_takeBook_197 rfl 0 rfl ?_
          obtain ⟨hT, v38, hv, h⟩ := h
          refine x_get E flX11_93 dX11_takeBook_198 hT hv ?_
          clear hT hv
          refine x_callVi (T := TX11) (N := 32) (t := 12) (As := [.int (J 5), .int v38]) E mlX11_115 inX11_fails seX11_fails rfl ⟨by decide, by decide⟩ (tX11_fails h) (kX11_fails l z D cA j0 (J 5) v38 M29 _ h) rfl ⟨rfl, rfl⟩ ⟨Nat.le_of_ble_eq_true rfl, Nat.le_of_ble_eq_true rfl⟩ ⟨(Nat.le_of_ble_eq_true rfl), (Nat.le_of_ble_eq_true rfl)⟩ (Nat.le_of_ble_eq_true rfl) rfl dX11_takeBook_201 (fun r39 M40 h => ?_)
          exact x_iret E hr hlk dX11_takeBook_204 h
      · replace h := xbr_f h c30
        clear c30
        refine x_aload_n E dX11_takeBook_178 rfl 0 rfl ?_
        refine x_iconst (v := (J 1)) E dX11_takeBook_179 (by decide) ?_
        refine x_aload_n E dX11_takeBook_180 rfl 0 rfl ?_
        obtain ⟨hT, v41, hv, h⟩ := h
        refine x_get E flX11_93 dX11_takeBook_181 hT hv ?_
        clear hT hv
        refine x_callVi (T := TX11) (N := 32) (t := 12) (As := [.int (J 1), .int v41]) E mlX11_115 inX11_fails seX11_fails rfl ⟨by decide, by decide⟩ (tX11_fails h) (kX11_fails l z D cA j0 (J 1) v41 M29 _ h) rfl ⟨rfl, rfl⟩ ⟨Nat.le_of_ble_eq_true rfl, Nat.le_of_ble_eq_true rfl⟩ ⟨(Nat.le_of_ble_eq_true rfl), (Nat.le_of_ble_eq_true rfl)⟩ (Nat.le_of_ble_eq_true rfl) rfl dX11_takeBook_184 (fun r42 M43 h => ?_)
        exact x_iret E hr hlk dX11_takeBook_187 h
    · replace h := xbr_f h c27
      clear c27
      refine x_iload_n E dX11_takeBook_167 rfl 1 rfl ?_
      exact x_iret E hr hlk dX11_takeBook_168 h
  have hJ141 : ∀ (M : Mem) (j0 : Nat) (j2 : Int32) (j3 : Int32), JX11_takeBook_141 K M j0 j2 j3 → xG p l e ({ frames := 5, cells := 0, slots := 0, locals := 111 } : Room) s m args below meth c (MQ below (va_Qi K (xWd z D cA) (xA z)) args s 0 0 (xA z)) 4 z D cA M (0) (0) 141 [(0, .ref j0), (2, .int j2), (3, .int j3)] [] := by
    intro M j0 j2 j3 h
    refine x_iload_n E dX11_takeBook_141 rfl 1 rfl ?_
    refine x_if_ne (tgt := 163) E dX11_takeBook_142 (by decide) (fun c26 => ?_) (fun c26 => ?_)
    · replace h := xbr_f h c26
      clear c26
      refine x_sub (L' := [(0, .ref j0), (2, .int j2)]) [0, 1] rfl ?_
      exact hJ163 M j0 j2 h
    · replace h := xbr_t h c26
      clear c26
      refine x_aload_n E dX11_takeBook_145 rfl 0 rfl ?_
      refine x_callVi (T := TX11) (N := 32) (t := 12) (As := []) E mlX11_148 inX11_here seX11_here rfl ⟨by decide, by decide⟩ (tX11_here h) (kX11_here l z D cA j0 M _ h) rfl ⟨rfl, rfl⟩ ⟨Nat.le_of_ble_eq_true rfl, Nat.le_of_ble_eq_true rfl⟩ ⟨(Nat.le_of_ble_eq_true rfl), (Nat.le_of_ble_eq_true rfl)⟩ (Nat.le_of_ble_eq_true rfl) rfl dX11_takeBook_146 (fun r44 M45 h => ?_)
      refine x_bipush (v := (J 119)) E dX11_takeBook_149 (by decide) ?_
      refine x_icmp_ne (tgt := 163) E dX11_takeBook_151 (by decide) (fun c46 => ?_) (fun c46 => ?_)
      · replace h := xbr_f h c46
        clear c46
        refine x_sub (L' := [(0, .ref j0), (2, .int j2)]) [0, 1] rfl ?_
        exact hJ163 M45 j0 j2 h
      · replace h := xbr_t h c46
        clear c46
        refine x_iload_n E dX11_takeBook_154 rfl 2 rfl ?_
        refine x_if_eq (tgt := 163) E dX11_takeBook_155 (by decide) (fun c47 => ?_) (fun c47 => ?_)
        · replace h := xbr_t h c47
          clear c47
          refine x_sub (L' := [(0, .ref j0), (2, .int j2)]) [0, 1] rfl ?_
          exact hJ163 M45 j0 j2 h
        · replace h := xbr_f h c47
          clear c47
          refine x_aload_n E dX11_takeBook_158 rfl 0 rfl ?_
          refine x_callVi (T := TX11) (N := 32) (t := 12) (As := []) E mlX11_154 inX11_takeWidth seX11_takeWidth rfl ⟨by decide, by decide⟩ (tX11_takeWidth h) (kX11_takeWidth l z D cA j0 M45 _ h) rfl ⟨rfl, rfl⟩ ⟨Nat.le_of_ble_eq_true rfl, Nat.le_of_ble_eq_true rfl⟩ ⟨(Nat.le_of_ble_eq_true rfl), (Nat.le_of_ble_eq_true rfl)⟩ (Nat.le_of_ble_eq_true rfl) rfl dX11_takeBook_159 (fun r48 M49 h => ?_)
          refine x_istore_n (L' := [(2, .int r48), (0, .ref j0), (3, .int j3)]) E dX11_takeBook_162 rfl (by decide) rfl ?_
          refine x_sub (L' := [(0, .ref j0), (2, .int r48)]) [1, 0] rfl ?_
          exact hJ163 M49 j0 r48 h
  have hJ140 : ∀ (M : Mem) (j0 : Nat) (j2 : Int32) (s0 : Int32), JX11_takeBook_140 K M j0 j2 s0 → xG p l e ({ frames := 5, cells := 0, slots := 0, locals := 111 } : Room) s m args below meth c (MQ below (va_Qi K (xWd z D cA) (xA z)) args s 0 0 (xA z)) 4 z D cA M (0) (0) 140 [(0, .ref j0), (2, .int j2)] [.int s0] := by
    intro M j0 j2 s0 h
    refine x_istore_n (L' := [(3, .int s0), (0, .ref j0), (2, .int j2)]) E dX11_takeBook_140 rfl (by decide) rfl ?_
    refine x_sub (L' := [(0, .ref j0), (2, .int j2), (3, .int s0)]) [1, 2, 0] rfl ?_
    exact hJ141 M j0 j2 s0 h
  have hJ102 : ∀ (M : Mem) (j0 : Nat) (j1 : Int32) (j2 : Int32) (s0 : Int32), JX11_takeBook_102 K M j0 j1 j2 s0 → xG p l e ({ frames := 5, cells := 0, slots := 0, locals := 111 } : Room) s m args below meth c (MQ below (va_Qi K (xWd z D cA) (xA z)) args s 0 0 (xA z)) 4 z D cA M (0) (0) 102 [(0, .ref j0), (1, .int j1), (2, .int j2)] [.int s0] := by
    intro M j0 j1 j2 s0 h
    refine x_istore_n (L' := [(3, .int s0), (0, .ref j0), (1, .int j1), (2, .int j2)]) E dX11_takeBook_102 rfl (by decide) rfl ?_
    refine x_iload_n E dX11_takeBook_103 rfl 3 rfl ?_
    refine x_if_ne (tgt := 141) E dX11_takeBook_104 (by decide) (fun c25 => ?_) (fun c25 => ?_)
    · replace h := xbr_f h c25
      clear c25
      refine x_sub (L' := [(0, .ref j0), (2, .int j2), (3, .int s0)]) [1, 3, 0] rfl ?_
      exact hJ141 M j0 j2 s0 h
    · replace h := xbr_t h c25
      clear c25
      refine x_aload_n E dX11_takeBook_107 rfl 1 rfl ?_
      refine x_callVi (T := TX11) (N := 32) (t := 12) (As := []) E mlX11_148 inX11_here seX11_here rfl ⟨by decide, by decide⟩ (tX11_here h) (kX11_here l z D cA j0 M _ h) rfl ⟨rfl, rfl⟩ ⟨Nat.le_of_ble_eq_true rfl, Nat.le_of_ble_eq_true rfl⟩ ⟨(Nat.le_of_ble_eq_true rfl), (Nat.le_of_ble_eq_true rfl)⟩ (Nat.le_of_ble_eq_true rfl) rfl dX11_takeBook_108 (fun r50 M51 h => ?_)
      refine x_bipush (v := (J 121)) E dX11_takeBook_111 (by decide) ?_
      refine x_icmp_ne (tgt := 141) E dX11_takeBook_113 (by decide) (fun c52 => ?_) (fun c52 => ?_)
      · replace h := xbr_f h c52
        clear c52
        refine x_sub (L' := [(0, .ref j0), (2, .int j2), (3, .int s0)]) [1, 3, 0] rfl ?_
        exact hJ141 M51 j0 j2 s0 h
      · replace h := xbr_t h c52
        clear c52
        refine x_iload_n E dX11_takeBook_116 rfl 0 rfl ?_
        refine x_if_eq (tgt := 141) E dX11_takeBook_117 (by decide) (fun c53 => ?_) (fun c53 => ?_)
        · replace h := xbr_t h c53
          clear c53
          refine x_sub (L' := [(0, .ref j0), (2, .int j2), (3, .int s0)]) [1, 3, 0] rfl ?_
          exact hJ141 M51 j0 j2 s0 h
        · replace h := xbr_f h c53
          clear c53
          refine x_aload_n E dX11_takeBook_120 rfl 1 rfl ?_
          refine x_iload_n E dX11_takeBook_121 rfl 2 rfl ?_
          refine x_callVi (T := TX11) (N := 32) (t := 12) (As := [.int j1]) E mlX11_151 inX11_takeYear seX11_takeYear rfl ⟨by decide, by decide⟩ (tX11_takeYear h) (kX11_takeYear l z D cA j0 j1 M51 _ h) rfl ⟨rfl, rfl⟩ ⟨Nat.le_of_ble_eq_true rfl, Nat.le_of_ble_eq_true rfl⟩ ⟨(Nat.le_of_ble_eq_true rfl), (Nat.le_of_ble_eq_true rfl)⟩ (Nat.le_of_ble_eq_true rfl) rfl dX11_takeBook_122 (fun r54 M55 h => ?_)
          refine x_istore_n (L' := [(2, .int r54), (3, .int s0), (0, .ref j0), (1, .int j1)]) E dX11_takeBook_125 rfl (by decide) rfl ?_
          refine x_aload_n E dX11_takeBook_126 rfl 2 rfl ?_
          refine x_callVi (T := TX11) (N := 32) (t := 12) (As := []) E mlX11_96 inX11_byteAt seX11_byteAt rfl ⟨by decide, by decide⟩ (tX11_byteAt h) (kX11_byteAt l z D cA j0 M55 _ h) rfl ⟨rfl, rfl⟩ ⟨Nat.le_of_ble_eq_true rfl, Nat.le_of_ble_eq_true rfl⟩ ⟨(Nat.le_of_ble_eq_true rfl), (Nat.le_of_ble_eq_true rfl)⟩ (Nat.le_of_ble_eq_true rfl) rfl dX11_takeBook_127 (x_pure (fun r56 h => ?_))
          refine x_bipush (v := (J 32)) E dX11_takeBook_130 (by decide) ?_
          refine x_icmp_ne (tgt := 139) E dX11_takeBook_132 (by decide) (fun c58 => ?_) (fun c58 => ?_)
          · replace h := xbr_f h c58
            clear c58
            refine x_iconst (v := (J 0)) E dX11_takeBook_139 (by decide) ?_
            refine x_sub (L' := [(0, .ref j0), (2, .int r54)]) [2, 0] rfl ?_
            exact hJ140 M55 j0 r54 (J 0) h
          · replace h := xbr_t h c58
            clear c58
            refine x_iconst (v := (J 1)) E dX11_takeBook_135 (by decide) ?_
            refine x_goto (tgt := 140) E dX11_takeBook_136 (by decide) ?_
            refine x_sub (L' := [(0, .ref j0), (2, .int r54)]) [2, 0] rfl ?_
            exact hJ140 M55 j0 r54 (J 1) h
  have hJ42 : ∀ (M : Mem) (j0 : Nat) (j1 : Int32) (s0 : Int32), JX11_takeBook_42 K M j0 j1 s0 → xG p l e ({ frames := 5, cells := 0, slots := 0, locals := 111 } : Room) s m args below meth c (MQ below (va_Qi K (xWd z D cA) (xA z)) args s 0 0 (xA z)) 4 z D cA M (0) (0) 42 [(0, .ref j0), (1, .int j1)] [.int s0] := by
    intro M j0 j1 s0 h
    refine x_istore_n (L' := [(2, .int s0), (0, .ref j0), (1, .int j1)]) E dX11_takeBook_42 rfl (by decide) rfl ?_
    refine x_iload_n E dX11_takeBook_43 rfl 0 rfl ?_
    refine x_if_le (tgt := 49) E dX11_takeBook_44 (by decide) (fun c10 => ?_) (fun c10 => ?_)
    · replace h := xbr_t h c10
      clear c10
      refine x_aload_n E dX11_takeBook_49 rfl 1 rfl ?_
      obtain ⟨hT, q11, hv, h⟩ := h
      refine x_get E flX11_13 dX11_takeBook_50 hT hv ?_
      clear hT hv
      refine x_aload_n E dX11_takeBook_53 rfl 1 rfl ?_
      obtain ⟨hT, v12, hv, h⟩ := h
      refine x_get E flX11_122 dX11_takeBook_54 hT hv ?_
      clear hT hv
      refine x_aload_n E dX11_takeBook_57 rfl 1 rfl ?_
      obtain ⟨hT, v13, hv, h⟩ := h
      refine x_get E flX11_108 dX11_takeBook_58 hT hv ?_
      clear hT hv
      obtain ⟨hT, hi, h⟩ := h
      refine x_iast E dX11_takeBook_61 hT hi (fun M14 eM14 => ?_)
      replace h := h M14 eM14
      clear hT hi eM14
      refine x_aload_n E dX11_takeBook_62 rfl 1 rfl ?_
      refine x_iload_n E dX11_takeBook_63 rfl 2 rfl ?_
      refine x_callVi (T := TX11) (N := 32) (t := 12) (As := [.int j1]) E mlX11_145 inX11_takePoints seX11_takePoints rfl ⟨by decide, by decide⟩ (tX11_takePoints h) (kX11_takePoints l z D cA j0 j1 M14 _ h) rfl ⟨rfl, rfl⟩ ⟨Nat.le_of_ble_eq_true rfl, Nat.le_of_ble_eq_true rfl⟩ ⟨(Nat.le_of_ble_eq_true rfl), (Nat.le_of_ble_eq_true rfl)⟩ (Nat.le_of_ble_eq_true rfl) rfl dX11_takeBook_64 (fun r15 M16 h => ?_)
      refine x_istore_n (L' := [(2, .int r15), (0, .ref j0), (1, .int j1)]) E dX11_takeBook_67 rfl (by decide) rfl ?_
      refine x_aload_n E dX11_takeBook_68 rfl 1 rfl ?_
      obtain ⟨hT, q17, hv, h⟩ := h
      refine x_get E flX11_7 dX11_takeBook_69 hT hv ?_
      clear hT hv
      refine x_iload_n E dX11_takeBook_72 rfl 2 rfl ?_
      refine x_bipush (v := (J 15)) E dX11_takeBook_73 (by decide) ?_
      refine x_iadd E dX11_takeBook_75 ?_
      refine x_iconst (v := (J (-1))) E dX11_takeBook_76 (by decide) ?_
      obtain ⟨hT, hi, h⟩ := h
      refine x_iast E dX11_takeBook_77 hT hi (fun M18 eM18 => ?_)
      replace h := h M18 eM18
      clear hT hi eM18
      refine x_aload_n E dX11_takeBook_78 rfl 1 rfl ?_
      obtain ⟨hT, q19, hv, h⟩ := h
      refine x_get E flX11_22 dX11_takeBook_79 hT hv ?_
      clear hT hv
      refine x_aload_n E dX11_takeBook_82 rfl 1 rfl ?_
      obtain ⟨hT, v20, hv, h⟩ := h
      refine x_get E flX11_122 dX11_takeBook_83 hT hv ?_
      clear hT hv
      refine x_iconst (v := (J 2)) E dX11_takeBook_86 (by decide) ?_
      obtain ⟨hT, hi, h⟩ := h
      refine x_iast E dX11_takeBook_87 hT hi (fun M21 eM21 => ?_)
      replace h := h M21 eM21
      clear hT hi eM21
      refine x_aload_n E dX11_takeBook_88 rfl 1 rfl ?_
      refine x_callVi (T := TX11) (N := 32) (t := 12) (As := []) E mlX11_96 inX11_byteAt seX11_byteAt rfl ⟨by decide, by decide⟩ (tX11_byteAt h) (kX11_byteAt l z D cA j0 M21 _ h) rfl ⟨rfl, rfl⟩ ⟨Nat.le_of_ble_eq_true rfl, Nat.le_of_ble_eq_true rfl⟩ ⟨(Nat.le_of_ble_eq_true rfl), (Nat.le_of_ble_eq_true rfl)⟩ (Nat.le_of_ble_eq_true rfl) rfl dX11_takeBook_89 (x_pure (fun r22 h => ?_))
      refine x_bipush (v := (J 32)) E dX11_takeBook_92 (by decide) ?_
      refine x_icmp_ne (tgt := 101) E dX11_takeBook_94 (by decide) (fun c24 => ?_) (fun c24 => ?_)
      · replace h := xbr_f h c24
        clear c24
        refine x_iconst (v := (J 0)) E dX11_takeBook_101 (by decide) ?_
        refine x_sub (L' := [(0, .ref j0), (1, .int j1), (2, .int r15)]) [1, 2, 0] rfl ?_
        exact hJ102 M21 j0 j1 r15 (J 0) h
      · replace h := xbr_t h c24
        clear c24
        refine x_iconst (v := (J 1)) E dX11_takeBook_97 (by decide) ?_
        refine x_goto (tgt := 102) E dX11_takeBook_98 (by decide) ?_
        refine x_sub (L' := [(0, .ref j0), (1, .int j1), (2, .int r15)]) [1, 2, 0] rfl ?_
        exact hJ102 M21 j0 j1 r15 (J 1) h
    · replace h := xbr_f h c10
      clear c10
      refine x_iload_n E dX11_takeBook_47 rfl 0 rfl ?_
      exact x_iret E hr hlk dX11_takeBook_48 h
  have hJ23 : ∀ (M : Mem) (j0 : Nat) (j1 : Int32) (s0 : Int32) (s1 : Nat), JX11_takeBook_23 K M j0 j1 s0 s1 → xG p l e ({ frames := 5, cells := 0, slots := 0, locals := 111 } : Room) s m args below meth c (MQ below (va_Qi K (xWd z D cA) (xA z)) args s 0 0 (xA z)) 4 z D cA M (0) (0) 23 [(0, .ref j0), (1, .int j1)] [.int s0, .ref s1] := by
    intro M j0 j1 s0 s1 h
    refine x_callVi (T := TX11) (N := 32) (t := 12) (As := [.int s0]) E mlX11_142 inX11_takeClass seX11_takeClass rfl ⟨by decide, by decide⟩ (tX11_takeClass h) (kX11_takeClass l z D cA s1 s0 M _ h) rfl ⟨rfl, rfl⟩ ⟨Nat.le_of_ble_eq_true rfl, Nat.le_of_ble_eq_true rfl⟩ ⟨(Nat.le_of_ble_eq_true rfl), (Nat.le_of_ble_eq_true rfl)⟩ (Nat.le_of_ble_eq_true rfl) rfl dX11_takeBook_23 (fun r5 M6 h => ?_)
    refine x_istore_n (L' := [(2, .int r5), (0, .ref j0), (1, .int j1)]) E dX11_takeBook_26 rfl (by decide) rfl ?_
    refine x_iload_n E dX11_takeBook_27 rfl 0 rfl ?_
    refine x_if_le (tgt := 35) E dX11_takeBook_28 (by decide) (fun c7 => ?_) (fun c7 => ?_)
    · replace h := xbr_t h c7
      clear c7
      refine x_aload_n E dX11_takeBook_35 rfl 1 rfl ?_
      refine x_iload_n E dX11_takeBook_36 rfl 2 rfl ?_
      refine x_iconst (v := (J 2)) E dX11_takeBook_37 (by decide) ?_
      refine x_iadd E dX11_takeBook_38 ?_
      refine x_callVi (T := TX11) (N := 32) (t := 12) (As := [.int (j1 + (J 2))]) E mlX11_125 inX11_takeFigures seX11_takeFigures rfl ⟨by decide, by decide⟩ (tX11_takeFigures h) (kX11_takeFigures l z D cA j0 (j1 + (J 2)) M6 _ h) rfl ⟨rfl, rfl⟩ ⟨Nat.le_of_ble_eq_true rfl, Nat.le_of_ble_eq_true rfl⟩ ⟨(Nat.le_of_ble_eq_true rfl), (Nat.le_of_ble_eq_true rfl)⟩ (Nat.le_of_ble_eq_true rfl) rfl dX11_takeBook_39 (fun r8 M9 h => ?_)
      refine x_sub (L' := [(0, .ref j0), (1, .int j1)]) [1, 2] rfl ?_
      exact hJ42 M9 j0 j1 r8 h
    · replace h := xbr_f h c7
      clear c7
      refine x_iload_n E dX11_takeBook_31 rfl 0 rfl ?_
      refine x_goto (tgt := 42) E dX11_takeBook_32 (by decide) ?_
      refine x_sub (L' := [(0, .ref j0), (1, .int j1)]) [1, 2] rfl ?_
      exact hJ42 M6 j0 j1 r5 h
  replace h := h.2
  refine x_bipush (v := (J 16)) E dX11_takeBook_0 (by decide) ?_
  refine x_aload_n E dX11_takeBook_2 rfl 0 rfl ?_
  obtain ⟨hT, v1, hv, h⟩ := h
  refine x_get E flX11_122 dX11_takeBook_3 hT hv ?_
  clear hT hv
  refine x_imul E dX11_takeBook_6 ?_
  obtain ⟨y2, ey2, h⟩ := h
  refine x_top (v := .int y2) (congrArg _ ey2) ?_
  clear ey2
  refine x_istore_n (L' := [(1, .int y2), (0, .ref a0)]) E dX11_takeBook_7 rfl (by decide) rfl ?_
  refine x_aload_n E dX11_takeBook_8 rfl 1 rfl ?_
  refine x_aload_n E dX11_takeBook_9 rfl 1 rfl ?_
  obtain ⟨hT, v3, hv, h⟩ := h
  refine x_get E flX11_122 dX11_takeBook_10 hT hv ?_
  clear hT hv
  refine x_bipush (v := (J 24)) E dX11_takeBook_13 (by decide) ?_
  refine x_icmp_ge (tgt := 22) E dX11_takeBook_15 (by decide) (fun c4 => ?_) (fun c4 => ?_)
  · replace h := xbr_t h c4
    clear c4
    refine x_iconst (v := (J 0)) E dX11_takeBook_22 (by decide) ?_
    refine x_sub (L' := [(0, .ref a0), (1, .int y2)]) [1, 0] rfl ?_
    exact hJ23 M a0 y2 (J 0) a0 h
  · replace h := xbr_f h c4
    clear c4
    refine x_iload_n E dX11_takeBook_18 rfl 0 rfl ?_
    refine x_goto (tgt := 23) E dX11_takeBook_19 (by decide) ?_
    refine x_sub (L' := [(0, .ref a0), (1, .int y2)]) [1, 0] rfl ?_
    exact hJ23 M a0 y2 y2 a0 h
