/-! contracts (by program) -/
theorem dX11_books_0 : decode cX11_books 0 = .ok (.aload_n 0, 1) := by decide +kernel
theorem dX11_books_1 : decode cX11_books 1 = .ok (.iconst (-1), 1) := by decide +kernel
theorem dX11_books_2 : decode cX11_books 2 = .ok (.putfield 40, 3) := by decide +kernel
theorem dX11_books_5 : decode cX11_books 5 = .ok (.aload_n 0, 1) := by decide +kernel
theorem dX11_books_6 : decode cX11_books 6 = .ok (.iconst 0, 1) := by decide +kernel
theorem dX11_books_7 : decode cX11_books 7 = .ok (.putfield 93, 3) := by decide +kernel
theorem dX11_books_10 : decode cX11_books 10 = .ok (.aload_n 0, 1) := by decide +kernel
theorem dX11_books_11 : decode cX11_books 11 = .ok (.aload_n 0, 1) := by decide +kernel
theorem dX11_books_12 : decode cX11_books 12 = .ok (.getfield 75, 3) := by decide +kernel
theorem dX11_books_15 : decode cX11_books 15 = .ok (.putfield 122, 3) := by decide +kernel
theorem dX11_books_18 : decode cX11_books 18 = .ok (.iconst 0, 1) := by decide +kernel
theorem dX11_books_19 : decode cX11_books 19 = .ok (.istore_n 1, 1) := by decide +kernel
theorem dX11_books_20 : decode cX11_books 20 = .ok (.iload_n 1, 1) := by decide +kernel
theorem dX11_books_21 : decode cX11_books 21 = .ok (.ifCond .ne 18, 3) := by decide +kernel
theorem dX11_books_24 : decode cX11_books 24 = .ok (.aload_n 0, 1) := by decide +kernel
theorem dX11_books_25 : decode cX11_books 25 = .ok (.invokevirtual 148, 3) := by decide +kernel
theorem dX11_books_28 : decode cX11_books 28 = .ok (.ifCond .lt 11, 3) := by decide +kernel
theorem dX11_books_31 : decode cX11_books 31 = .ok (.aload_n 0, 1) := by decide +kernel
theorem dX11_books_32 : decode cX11_books 32 = .ok (.invokevirtual 160, 3) := by decide +kernel
theorem dX11_books_35 : decode cX11_books 35 = .ok (.istore_n 1, 1) := by decide +kernel
theorem dX11_books_36 : decode cX11_books 36 = .ok (.goto (-16), 3) := by decide +kernel
theorem dX11_books_39 : decode cX11_books 39 = .ok (.aload_n 0, 1) := by decide +kernel
theorem dX11_books_40 : decode cX11_books 40 = .ok (.iconst 0, 1) := by decide +kernel
theorem dX11_books_41 : decode cX11_books 41 = .ok (.putfield 88, 3) := by decide +kernel
theorem dX11_books_44 : decode cX11_books 44 = .ok (.iload_n 1, 1) := by decide +kernel
theorem dX11_books_45 : decode cX11_books 45 = .ok (.ifCond .le 8, 3) := by decide +kernel
theorem dX11_books_48 : decode cX11_books 48 = .ok (.bipush (-10), 2) := by decide +kernel
theorem dX11_books_50 : decode cX11_books 50 = .ok (.iload_n 1, 1) := by decide +kernel
theorem dX11_books_51 : decode cX11_books 51 = .ok (.isub, 1) := by decide +kernel
theorem dX11_books_52 : decode cX11_books 52 = .ok (.ireturn, 1) := by decide +kernel
theorem dX11_books_53 : decode cX11_books 53 = .ok (.aload_n 0, 1) := by decide +kernel
theorem dX11_books_54 : decode cX11_books 54 = .ok (.aload_n 0, 1) := by decide +kernel
theorem dX11_books_55 : decode cX11_books 55 = .ok (.getfield 122, 3) := by decide +kernel
theorem dX11_books_58 : decode cX11_books 58 = .ok (.putfield 75, 3) := by decide +kernel
theorem dX11_books_61 : decode cX11_books 61 = .ok (.aload_n 0, 1) := by decide +kernel
theorem dX11_books_62 : decode cX11_books 62 = .ok (.getfield 75, 3) := by decide +kernel
theorem dX11_books_65 : decode cX11_books 65 = .ok (.ireturn, 1) := by decide +kernel
set_option maxHeartbeats 4000000 in
set_option maxRecDepth 100000 in
theorem kX11_books (l : Launch) (z : Nat) (D : va_G) (cA : Nat → ClassId) (a0 : Nat) (M : Mem) (K : Int32 → Mem → Prop) (h : PX11_books a0 M K) : Met l yX11_books (.code yX11_books cX11_books 2 (some .int) :: gtbl) ({ frames := 6, cells := 0, slots := 0, locals := 134 } : Room) (va_Pc [.ref a0] (xB z D cA M)) (va_Qi K (xWd z D cA) (xA z)) 0 0 (xA z) := by
  refine x_met (by decide +kernel) (Nat.le_of_ble_eq_true rfl) (L0 := [(0, .ref a0)]) rfl ?_
  intro p e s m args below meth c E hr hlk hnm
  have E : xE RX11 cX11_books 2 D cA p s m args c := E
  have hJ39 : ∀ (M : Mem) (j0 : Nat) (j1 : Int32), JX11_books_39 K M j0 j1 → xG p l e ({ frames := 6, cells := 0, slots := 0, locals := 134 } : Room) s m args below meth c (MQ below (va_Qi K (xWd z D cA) (xA z)) args s 0 0 (xA z)) 2 z D cA M (0) (0) 39 [(0, .ref j0), (1, .int j1)] [] := by
    intro M j0 j1 h
    refine x_aload_n E dX11_books_39 rfl 0 rfl ?_
    refine x_iconst (v := (J 0)) E dX11_books_40 (by decide) ?_
    obtain ⟨hT, h⟩ := h
    refine x_put E flX11_88 ⟨tyX11_ok, nmX11, rfl⟩ (by decide +kernel) rfl rfl dX11_books_41 hT (fun M6 eM6 => ?_)
    replace h := h M6 eM6
    clear hT eM6
    refine x_iload_n E dX11_books_44 rfl 1 rfl ?_
    refine x_if_le (tgt := 53) E dX11_books_45 (by decide) (fun c7 => ?_) (fun c7 => ?_)
    · replace h := xbr_t h c7
      clear c7
      refine x_aload_n E dX11_books_53 rfl 0 rfl ?_
      refine x_aload_n E dX11_books_54 rfl 0 rfl ?_
      obtain ⟨hT, v8, hv, h⟩ := h
      refine x_get E flX11_122 dX11_books_55 hT hv ?_
      clear hT hv
      obtain ⟨hT, h⟩ := h
      refine x_put E flX11_75 ⟨tyX11_ok, nmX11, rfl⟩ (by decide +kernel) rfl rfl dX11_books_58 hT (fun M9 eM9 => ?_)
      replace h := h M9 eM9
      clear hT eM9
      refine x_aload_n E dX11_books_61 rfl 0 rfl ?_
      obtain ⟨hT, v10, hv, h⟩ := h
      refine x_get E flX11_75 dX11_books_62 hT hv ?_
      clear hT hv
      exact x_iret E hr hlk dX11_books_65 h
    · replace h := xbr_f h c7
      clear c7
      refine x_bipush (v := (J (-10))) E dX11_books_48 (by decide) ?_
      refine x_iload_n E dX11_books_50 rfl 1 rfl ?_
      refine x_isub E dX11_books_51 ?_
      exact x_iret E hr hlk dX11_books_52 h
  replace h := h.2
  refine x_aload_n E dX11_books_0 rfl 0 rfl ?_
  refine x_iconst (v := (J (-1))) E dX11_books_1 (by decide) ?_
  obtain ⟨hT, h⟩ := h
  refine x_put E flX11_40 ⟨tyX11_ok, nmX11, rfl⟩ (by decide +kernel) rfl rfl dX11_books_2 hT (fun M1 eM1 => ?_)
  replace h := h M1 eM1
  clear hT eM1
  refine x_aload_n E dX11_books_5 rfl 0 rfl ?_
  refine x_iconst (v := (J 0)) E dX11_books_6 (by decide) ?_
  obtain ⟨hT, h⟩ := h
  refine x_put E flX11_93 ⟨tyX11_ok, nmX11, rfl⟩ (by decide +kernel) rfl rfl dX11_books_7 hT (fun M2 eM2 => ?_)
  replace h := h M2 eM2
  clear hT eM2
  refine x_aload_n E dX11_books_10 rfl 0 rfl ?_
  refine x_aload_n E dX11_books_11 rfl 0 rfl ?_
  obtain ⟨hT, v3, hv, h⟩ := h
  refine x_get E flX11_75 dX11_books_12 hT hv ?_
  clear hT hv
  obtain ⟨hT, h⟩ := h
  refine x_put E flX11_122 ⟨tyX11_ok, nmX11, rfl⟩ (by decide +kernel) rfl rfl dX11_books_15 hT (fun M4 eM4 => ?_)
  replace h := h M4 eM4
  clear hT eM4
  refine x_iconst (v := (J 0)) E dX11_books_18 (by decide) ?_
  refine x_istore_n (L' := [(1, .int (J 0)), (0, .ref a0)]) E dX11_books_19 rfl (by decide) rfl ?_
  refine x_sub (L' := [(0, .ref a0), (1, .int (J 0))]) [1, 0] rfl ?_
  refine lp_sound (T := fun sv => xG p l e ({ frames := 6, cells := 0, slots := 0, locals := 134 } : Room) s m args below meth c (MQ below (va_Qi K (xWd z D cA) (xA z)) args s 0 0 (xA z)) 2 z D cA sv.1 (0) (0) 20 [(0, .ref a0), (1, .int sv.2)] []) ?_ (M4, (J 0)) h
  clear h
  intro kc20 hk20 sv h
  obtain ⟨M, x1⟩ := sv
  replace h : CX11_books_20 K a0 kc20 M x1 := h
  try dsimp only
  refine x_iload_n E dX11_books_20 rfl 1 rfl ?_
  refine x_if_ne (tgt := 39) E dX11_books_21 (by decide) (fun c5 => ?_) (fun c5 => ?_)
  · replace h := xbr_f h c5
    clear c5
    exact hJ39 M a0 x1 h
  · replace h := xbr_t h c5
    clear c5
    refine x_aload_n E dX11_books_24 rfl 0 rfl ?_
    refine x_callVi (T := TX11) (N := 32) (t := 12) (As := []) E mlX11_148 inX11_here seX11_here rfl ⟨by decide, by decide⟩ (tX11_here h) (kX11_here l z D cA a0 M _ h) rfl ⟨rfl, rfl⟩ ⟨Nat.le_of_ble_eq_true rfl, Nat.le_of_ble_eq_true rfl⟩ ⟨(Nat.le_of_ble_eq_true rfl), (Nat.le_of_ble_eq_true rfl)⟩ (Nat.le_of_ble_eq_true rfl) rfl dX11_books_25 (fun r11 M12 h => ?_)
    refine x_if_lt (tgt := 39) E dX11_books_28 (by decide) (fun c13 => ?_) (fun c13 => ?_)
    · replace h := xbr_t h c13
      clear c13
      exact hJ39 M12 a0 x1 h
    · replace h := xbr_f h c13
      clear c13
      refine x_aload_n E dX11_books_31 rfl 0 rfl ?_
      refine x_callVi (T := TX11) (N := 32) (t := 12) (As := []) E mlX11_160 inX11_takeBook seX11_takeBook rfl ⟨by decide, by decide⟩ (tX11_takeBook h) (kX11_takeBook l z D cA a0 M12 _ h) rfl ⟨rfl, rfl⟩ ⟨Nat.le_of_ble_eq_true rfl, Nat.le_of_ble_eq_true rfl⟩ ⟨(Nat.le_of_ble_eq_true rfl), (Nat.le_of_ble_eq_true rfl)⟩ (Nat.le_of_ble_eq_true rfl) rfl dX11_books_32 (fun r14 M15 h => ?_)
      refine x_istore_n (L' := [(1, .int r14), (0, .ref a0)]) E dX11_books_35 rfl (by decide) rfl ?_
      refine x_goto (tgt := 20) E dX11_books_36 (by decide) ?_
      refine x_sub (L' := [(0, .ref a0), (1, .int r14)]) [1, 0] rfl ?_
      exact hk20 (M15, r14) h
theorem dX11_fault_0 : decode cX11_fault 0 = .ok (.aload_n 0, 1) := by decide +kernel
theorem dX11_fault_1 : decode cX11_fault 1 = .ok (.getfield 40, 3) := by decide +kernel
theorem dX11_fault_4 : decode cX11_fault 4 = .ok (.ireturn, 1) := by decide +kernel
set_option maxHeartbeats 4000000 in
set_option maxRecDepth 100000 in
theorem kX11_fault (l : Launch) (z : Nat) (D : va_G) (cA : Nat → ClassId) (a0 : Nat) (M : Mem) (K : Int32 → Prop) (h : PX11_fault a0 M K) : Met l yX11_fault (.code yX11_fault cX11_fault 1 (some .int) :: gtbl) ({ frames := 0, cells := 0, slots := 0, locals := 0 } : Room) (va_Pc [.ref a0] (xB z D cA M)) (va_Qi (fun r M1 => M1 = M ∧ K r) (xWd z D cA) (xA z)) 0 0 (xA z) := by
  refine x_met (by decide +kernel) (Nat.le_of_ble_eq_true rfl) (L0 := [(0, .ref a0)]) rfl ?_
  intro p e s m args below meth c E hr hlk hnm
  have E : xE RX11 cX11_fault 1 D cA p s m args c := E
  replace h := h.2
  refine x_aload_n E dX11_fault_0 rfl 0 rfl ?_
  obtain ⟨hT, v1, hv, h⟩ := h
  refine x_get E flX11_40 dX11_fault_1 hT hv ?_
  clear hT hv
  exact x_iret E hr hlk dX11_fault_4 ⟨rfl, h⟩
theorem dX11_whole_0 : decode cX11_whole 0 = .ok (.iconst 0, 1) := by decide +kernel
theorem dX11_whole_1 : decode cX11_whole 1 = .ok (.istore_n 3, 1) := by decide +kernel
theorem dX11_whole_2 : decode cX11_whole 2 = .ok (.iconst 0, 1) := by decide +kernel
theorem dX11_whole_3 : decode cX11_whole 3 = .ok (.istore 4, 2) := by decide +kernel
theorem dX11_whole_5 : decode cX11_whole 5 = .ok (.iload 4, 2) := by decide +kernel
theorem dX11_whole_7 : decode cX11_whole 7 = .ok (.iload_n 2, 1) := by decide +kernel
theorem dX11_whole_8 : decode cX11_whole 8 = .ok (.if_icmp .ge 21, 3) := by decide +kernel
theorem dX11_whole_11 : decode cX11_whole 11 = .ok (.bipush 10, 2) := by decide +kernel
theorem dX11_whole_13 : decode cX11_whole 13 = .ok (.iload_n 3, 1) := by decide +kernel
theorem dX11_whole_14 : decode cX11_whole 14 = .ok (.imul, 1) := by decide +kernel
theorem dX11_whole_15 : decode cX11_whole 15 = .ok (.aload_n 0, 1) := by decide +kernel
theorem dX11_whole_16 : decode cX11_whole 16 = .ok (.iload_n 1, 1) := by decide +kernel
theorem dX11_whole_17 : decode cX11_whole 17 = .ok (.iload 4, 2) := by decide +kernel
theorem dX11_whole_19 : decode cX11_whole 19 = .ok (.iadd, 1) := by decide +kernel
theorem dX11_whole_20 : decode cX11_whole 20 = .ok (.iaload, 1) := by decide +kernel
theorem dX11_whole_21 : decode cX11_whole 21 = .ok (.iadd, 1) := by decide +kernel
theorem dX11_whole_22 : decode cX11_whole 22 = .ok (.istore_n 3, 1) := by decide +kernel
theorem dX11_whole_23 : decode cX11_whole 23 = .ok (.iinc 4 1, 3) := by decide +kernel
theorem dX11_whole_26 : decode cX11_whole 26 = .ok (.goto (-21), 3) := by decide +kernel
theorem dX11_whole_29 : decode cX11_whole 29 = .ok (.iload_n 3, 1) := by decide +kernel
theorem dX11_whole_30 : decode cX11_whole 30 = .ok (.ireturn, 1) := by decide +kernel
set_option maxHeartbeats 4000000 in
set_option maxRecDepth 100000 in
theorem kX11_whole (l : Launch) (z : Nat) (D : va_G) (cA : Nat → ClassId) (a0 : Nat) (x1 : Int32) (x2 : Int32) (M : Mem) (K : Int32 → Prop) (h : PX11_whole a0 x1 x2 M K) : Met l yX11_whole (.code yX11_whole cX11_whole 5 (some .int) :: gtbl) ({ frames := 0, cells := 0, slots := 0, locals := 0 } : Room) (va_Pc [.ref a0, .int x1, .int x2] (xB z D cA M)) (va_Qi (fun r M1 => M1 = M ∧ K r) (xWd z D cA) (xA z)) 0 0 (xA z) := by
  refine x_met (by decide +kernel) (Nat.le_of_ble_eq_true rfl) (L0 := [(0, .ref a0), (1, .int x1), (2, .int x2)]) rfl ?_
  intro p e s m args below meth c E hr hlk hnm
  have E : xE RX11 cX11_whole 5 D cA p s m args c := E
  refine x_iconst (v := (J 0)) E dX11_whole_0 (by decide) ?_
  refine x_istore_n (L' := [(3, .int (J 0)), (0, .ref a0), (1, .int x1), (2, .int x2)]) E dX11_whole_1 rfl (by decide) rfl ?_
  refine x_iconst (v := (J 0)) E dX11_whole_2 (by decide) ?_
  refine x_istore (L' := [(4, .int (J 0)), (3, .int (J 0)), (0, .ref a0), (1, .int x1), (2, .int x2)]) E dX11_whole_3 (by decide) rfl ?_
  refine x_sub (L' := [(0, .ref a0), (1, .int x1), (2, .int x2), (3, .int (J 0)), (4, .int (J 0))]) [2, 3, 4, 1, 0] rfl ?_
  refine lp_sound (T := fun sv => xG p l e ({ frames := 0, cells := 0, slots := 0, locals := 0 } : Room) s m args below meth c (MQ below (va_Qi (fun r M1 => M1 = M ∧ K r) (xWd z D cA) (xA z)) args s 0 0 (xA z)) 5 z D cA M (0) (0) 5 [(0, .ref a0), (1, .int x1), (2, .int x2), (3, .int sv.1), (4, .int sv.2)] []) ?_ ((J 0), (J 0)) h
  clear h
  intro kc5 hk5 sv h
  obtain ⟨x3, x4⟩ := sv
  replace h : CX11_whole_5 K M a0 x1 x2 kc5 x3 x4 := h
  try dsimp only
  refine x_iload E dX11_whole_5 4 rfl ?_
  refine x_iload_n E dX11_whole_7 rfl 2 rfl ?_
  refine x_icmp_ge (tgt := 29) E dX11_whole_8 (by decide) (fun c1 => ?_) (fun c1 => ?_)
  · replace h := xbr_t h c1
    clear c1
    refine x_iload_n E dX11_whole_29 rfl 3 rfl ?_
    exact x_iret E hr hlk dX11_whole_30 ⟨rfl, h⟩
  · replace h := xbr_f h c1
    clear c1
    refine x_bipush (v := (J 10)) E dX11_whole_11 (by decide) ?_
    refine x_iload_n E dX11_whole_13 rfl 3 rfl ?_
    refine x_imul E dX11_whole_14 ?_
    refine x_aload_n E dX11_whole_15 rfl 0 rfl ?_
    refine x_iload_n E dX11_whole_16 rfl 1 rfl ?_
    refine x_iload E dX11_whole_17 4 rfl ?_
    refine x_iadd E dX11_whole_19 ?_
    obtain ⟨hT, hi, v2, hv, h⟩ := h
    refine x_iald E dX11_whole_20 hT hi hv ?_
    clear hT hi hv
    refine x_iadd E dX11_whole_21 ?_
    obtain ⟨y3, ey3, h⟩ := h
    refine x_top (v := .int y3) (congrArg _ ey3) ?_
    clear ey3
    refine x_istore_n (L' := [(3, .int y3), (0, .ref a0), (1, .int x1), (2, .int x2), (4, .int x4)]) E dX11_whole_22 rfl (by decide) rfl ?_
    refine x_iinc (v := (x4 + (J 1))) (L' := [(4, .int (x4 + (J 1))), (3, .int y3), (0, .ref a0), (1, .int x1), (2, .int x2)]) E dX11_whole_23 4 rfl rfl (by decide) rfl ?_
    refine x_goto (tgt := 5) E dX11_whole_26 (by decide) ?_
    refine x_sub (L' := [(0, .ref a0), (1, .int x1), (2, .int x2), (3, .int y3), (4, .int (x4 + (J 1)))]) [2, 3, 4, 1, 0] rfl ?_
    exact hk5 (y3, (x4 + (J 1))) h
theorem dX11_placeOf_0 : decode cX11_placeOf 0 = .ok (.iconst (-1), 1) := by decide +kernel
theorem dX11_placeOf_1 : decode cX11_placeOf 1 = .ok (.istore_n 2, 1) := by decide +kernel
theorem dX11_placeOf_2 : decode cX11_placeOf 2 = .ok (.iconst 0, 1) := by decide +kernel
theorem dX11_placeOf_3 : decode cX11_placeOf 3 = .ok (.istore_n 3, 1) := by decide +kernel
theorem dX11_placeOf_4 : decode cX11_placeOf 4 = .ok (.iload_n 3, 1) := by decide +kernel
theorem dX11_placeOf_5 : decode cX11_placeOf 5 = .ok (.aload_n 0, 1) := by decide +kernel
theorem dX11_placeOf_6 : decode cX11_placeOf 6 = .ok (.getfield 222, 3) := by decide +kernel
theorem dX11_placeOf_9 : decode cX11_placeOf 9 = .ok (.if_icmp .ge 25, 3) := by decide +kernel
theorem dX11_placeOf_12 : decode cX11_placeOf 12 = .ok (.aload_n 0, 1) := by decide +kernel
theorem dX11_placeOf_13 : decode cX11_placeOf 13 = .ok (.getfield 28, 3) := by decide +kernel
theorem dX11_placeOf_16 : decode cX11_placeOf 16 = .ok (.iload_n 3, 1) := by decide +kernel
theorem dX11_placeOf_17 : decode cX11_placeOf 17 = .ok (.iaload, 1) := by decide +kernel
theorem dX11_placeOf_18 : decode cX11_placeOf 18 = .ok (.iload_n 1, 1) := by decide +kernel
theorem dX11_placeOf_19 : decode cX11_placeOf 19 = .ok (.if_icmp .ne 7, 3) := by decide +kernel
theorem dX11_placeOf_22 : decode cX11_placeOf 22 = .ok (.iload_n 3, 1) := by decide +kernel
theorem dX11_placeOf_23 : decode cX11_placeOf 23 = .ok (.goto 4, 3) := by decide +kernel
theorem dX11_placeOf_26 : decode cX11_placeOf 26 = .ok (.iload_n 2, 1) := by decide +kernel
theorem dX11_placeOf_27 : decode cX11_placeOf 27 = .ok (.istore_n 2, 1) := by decide +kernel
theorem dX11_placeOf_28 : decode cX11_placeOf 28 = .ok (.iinc 3 1, 3) := by decide +kernel
theorem dX11_placeOf_31 : decode cX11_placeOf 31 = .ok (.goto (-27), 3) := by decide +kernel
theorem dX11_placeOf_34 : decode cX11_placeOf 34 = .ok (.iload_n 2, 1) := by decide +kernel
theorem dX11_placeOf_35 : decode cX11_placeOf 35 = .ok (.ireturn, 1) := by decide +kernel
set_option maxHeartbeats 4000000 in
set_option maxRecDepth 100000 in
theorem kX11_placeOf (l : Launch) (z : Nat) (D : va_G) (cA : Nat → ClassId) (a0 : Nat) (x1 : Int32) (M : Mem) (K : Int32 → Prop) (h : PX11_placeOf a0 x1 M K) : Met l yX11_placeOf (.code yX11_placeOf cX11_placeOf 4 (some .int) :: gtbl) ({ frames := 0, cells := 0, slots := 0, locals := 0 } : Room) (va_Pc [.ref a0, .int x1] (xB z D cA M)) (va_Qi (fun r M1 => M1 = M ∧ K r) (xWd z D cA) (xA z)) 0 0 (xA z) := by
  refine x_met (by decide +kernel) (Nat.le_of_ble_eq_true rfl) (L0 := [(0, .ref a0), (1, .int x1)]) rfl ?_
  intro p e s m args below meth c E hr hlk hnm
  have E : xE RX11 cX11_placeOf 4 D cA p s m args c := E
  replace h := h.2
  refine x_iconst (v := (J (-1))) E dX11_placeOf_0 (by decide) ?_
  refine x_istore_n (L' := [(2, .int (J (-1))), (0, .ref a0), (1, .int x1)]) E dX11_placeOf_1 rfl (by decide) rfl ?_
  refine x_iconst (v := (J 0)) E dX11_placeOf_2 (by decide) ?_
  refine x_istore_n (L' := [(3, .int (J 0)), (2, .int (J (-1))), (0, .ref a0), (1, .int x1)]) E dX11_placeOf_3 rfl (by decide) rfl ?_
  refine x_sub (L' := [(0, .ref a0), (1, .int x1), (2, .int (J (-1))), (3, .int (J 0))]) [2, 3, 1, 0] rfl ?_
  refine lp_sound (T := fun sv => xG p l e ({ frames := 0, cells := 0, slots := 0, locals := 0 } : Room) s m args below meth c (MQ below (va_Qi (fun r M1 => M1 = M ∧ K r) (xWd z D cA) (xA z)) args s 0 0 (xA z)) 4 z D cA M (0) (0) 4 [(0, .ref a0), (1, .int x1), (2, .int sv.1), (3, .int sv.2)] []) ?_ ((J (-1)), (J 0)) h
  clear h
  intro kc4 hk4 sv h
  obtain ⟨x2, x3⟩ := sv
  replace h : CX11_placeOf_4 K M a0 x1 kc4 x2 x3 := h
  try dsimp only
  refine x_iload_n E dX11_placeOf_4 rfl 3 rfl ?_
  refine x_aload_n E dX11_placeOf_5 rfl 0 rfl ?_
  obtain ⟨hT, v1, hv, h⟩ := h
  refine x_get E flX11_222 dX11_placeOf_6 hT hv ?_
  clear hT hv
  refine x_icmp_ge (tgt := 34) E dX11_placeOf_9 (by decide) (fun c2 => ?_) (fun c2 => ?_)
  · replace h := xbr_t h c2
    clear c2
    refine x_iload_n E dX11_placeOf_34 rfl 2 rfl ?_
    exact x_iret E hr hlk dX11_placeOf_35 ⟨rfl, h⟩
  · replace h := xbr_f h c2
    clear c2
    refine x_aload_n E dX11_placeOf_12 rfl 0 rfl ?_
    obtain ⟨hT, q3, hv, h⟩ := h
    refine x_get E flX11_28 dX11_placeOf_13 hT hv ?_
    clear hT hv
    refine x_iload_n E dX11_placeOf_16 rfl 3 rfl ?_
    obtain ⟨hT, hi, v4, hv, h⟩ := h
    refine x_iald E dX11_placeOf_17 hT hi hv ?_
    clear hT hi hv
    refine x_iload_n E dX11_placeOf_18 rfl 1 rfl ?_
    refine x_icmp_ne (tgt := 26) E dX11_placeOf_19 (by decide) (fun c5 => ?_) (fun c5 => ?_)
    · replace h := xbr_f h c5
      clear c5
      refine x_iload_n E dX11_placeOf_26 rfl 2 rfl ?_
      refine x_istore_n (L' := [(2, .int x2), (0, .ref a0), (1, .int x1), (3, .int x3)]) E dX11_placeOf_27 rfl (by decide) rfl ?_
      refine x_iinc (v := (x3 + (J 1))) (L' := [(3, .int (x3 + (J 1))), (2, .int x2), (0, .ref a0), (1, .int x1)]) E dX11_placeOf_28 3 rfl rfl (by decide) rfl ?_
      refine x_goto (tgt := 4) E dX11_placeOf_31 (by decide) ?_
      refine x_sub (L' := [(0, .ref a0), (1, .int x1), (2, .int x2), (3, .int (x3 + (J 1)))]) [2, 3, 1, 0] rfl ?_
      exact hk4 (x2, (x3 + (J 1))) h
    · replace h := xbr_t h c5
      clear c5
      refine x_iload_n E dX11_placeOf_22 rfl 3 rfl ?_
      refine x_goto (tgt := 27) E dX11_placeOf_23 (by decide) ?_
      refine x_istore_n (L' := [(2, .int x3), (0, .ref a0), (1, .int x1), (3, .int x3)]) E dX11_placeOf_27 rfl (by decide) rfl ?_
      refine x_iinc (v := (x3 + (J 1))) (L' := [(3, .int (x3 + (J 1))), (2, .int x3), (0, .ref a0), (1, .int x1)]) E dX11_placeOf_28 3 rfl rfl (by decide) rfl ?_
      refine x_goto (tgt := 4) E dX11_placeOf_31 (by decide) ?_
      refine x_sub (L' := [(0, .ref a0), (1, .int x1), (2, .int x3), (3, .int (x3 + (J 1)))]) [2, 3, 1, 0] rfl ?_
      exact hk4 (x3, (x3 + (J 1))) h
theorem dX11_shelfOf_0 : decode cX11_shelfOf 0 = .ok (.iconst 0, 1) := by decide +kernel
theorem dX11_shelfOf_1 : decode cX11_shelfOf 1 = .ok (.istore_n 2, 1) := by decide +kernel
theorem dX11_shelfOf_2 : decode cX11_shelfOf 2 = .ok (.aload_n 0, 1) := by decide +kernel
theorem dX11_shelfOf_3 : decode cX11_shelfOf 3 = .ok (.getfield 31, 3) := by decide +kernel
theorem dX11_shelfOf_6 : decode cX11_shelfOf 6 = .ok (.iconst 0, 1) := by decide +kernel
theorem dX11_shelfOf_7 : decode cX11_shelfOf 7 = .ok (.iaload, 1) := by decide +kernel
theorem dX11_shelfOf_8 : decode cX11_shelfOf 8 = .ok (.istore_n 3, 1) := by decide +kernel
theorem dX11_shelfOf_9 : decode cX11_shelfOf 9 = .ok (.iload_n 3, 1) := by decide +kernel
theorem dX11_shelfOf_10 : decode cX11_shelfOf 10 = .ok (.iload_n 1, 1) := by decide +kernel
theorem dX11_shelfOf_11 : decode cX11_shelfOf 11 = .ok (.if_icmp .gt 18, 3) := by decide +kernel
theorem dX11_shelfOf_14 : decode cX11_shelfOf 14 = .ok (.iinc 2 1, 3) := by decide +kernel
theorem dX11_shelfOf_17 : decode cX11_shelfOf 17 = .ok (.iload_n 3, 1) := by decide +kernel
theorem dX11_shelfOf_18 : decode cX11_shelfOf 18 = .ok (.aload_n 0, 1) := by decide +kernel
theorem dX11_shelfOf_19 : decode cX11_shelfOf 19 = .ok (.getfield 31, 3) := by decide +kernel
theorem dX11_shelfOf_22 : decode cX11_shelfOf 22 = .ok (.iload_n 2, 1) := by decide +kernel
theorem dX11_shelfOf_23 : decode cX11_shelfOf 23 = .ok (.iaload, 1) := by decide +kernel
theorem dX11_shelfOf_24 : decode cX11_shelfOf 24 = .ok (.iadd, 1) := by decide +kernel
theorem dX11_shelfOf_25 : decode cX11_shelfOf 25 = .ok (.istore_n 3, 1) := by decide +kernel
theorem dX11_shelfOf_26 : decode cX11_shelfOf 26 = .ok (.goto (-17), 3) := by decide +kernel
theorem dX11_shelfOf_29 : decode cX11_shelfOf 29 = .ok (.iload_n 2, 1) := by decide +kernel
theorem dX11_shelfOf_30 : decode cX11_shelfOf 30 = .ok (.ireturn, 1) := by decide +kernel
set_option maxHeartbeats 4000000 in
set_option maxRecDepth 100000 in
theorem kX11_shelfOf (l : Launch) (z : Nat) (D : va_G) (cA : Nat → ClassId) (a0 : Nat) (x1 : Int32) (M : Mem) (K : Int32 → Prop) (h : PX11_shelfOf a0 x1 M K) : Met l yX11_shelfOf (.code yX11_shelfOf cX11_shelfOf 4 (some .int) :: gtbl) ({ frames := 0, cells := 0, slots := 0, locals := 0 } : Room) (va_Pc [.ref a0, .int x1] (xB z D cA M)) (va_Qi (fun r M1 => M1 = M ∧ K r) (xWd z D cA) (xA z)) 0 0 (xA z) := by
  refine x_met (by decide +kernel) (Nat.le_of_ble_eq_true rfl) (L0 := [(0, .ref a0), (1, .int x1)]) rfl ?_
  intro p e s m args below meth c E hr hlk hnm
  have E : xE RX11 cX11_shelfOf 4 D cA p s m args c := E
  replace h := h.2
  refine x_iconst (v := (J 0)) E dX11_shelfOf_0 (by decide) ?_
  refine x_istore_n (L' := [(2, .int (J 0)), (0, .ref a0), (1, .int x1)]) E dX11_shelfOf_1 rfl (by decide) rfl ?_
  refine x_aload_n E dX11_shelfOf_2 rfl 1 rfl ?_
  obtain ⟨hT, q1, hv, h⟩ := h
  refine x_get E flX11_31 dX11_shelfOf_3 hT hv ?_
  clear hT hv
  refine x_iconst (v := (J 0)) E dX11_shelfOf_6 (by decide) ?_
  obtain ⟨hT, hi, v2, hv, h⟩ := h
  refine x_iald E dX11_shelfOf_7 hT hi hv ?_
  clear hT hi hv
  refine x_istore_n (L' := [(3, .int v2), (2, .int (J 0)), (0, .ref a0), (1, .int x1)]) E dX11_shelfOf_8 rfl (by decide) rfl ?_
  refine x_sub (L' := [(0, .ref a0), (1, .int x1), (2, .int (J 0)), (3, .int v2)]) [2, 3, 1, 0] rfl ?_
  refine lp_sound (T := fun sv => xG p l e ({ frames := 0, cells := 0, slots := 0, locals := 0 } : Room) s m args below meth c (MQ below (va_Qi (fun r M1 => M1 = M ∧ K r) (xWd z D cA) (xA z)) args s 0 0 (xA z)) 4 z D cA M (0) (0) 9 [(0, .ref a0), (1, .int x1), (2, .int sv.1), (3, .int sv.2)] []) ?_ ((J 0), v2) h
  clear h
  intro kc9 hk9 sv h
  obtain ⟨x2, x3⟩ := sv
  replace h : CX11_shelfOf_9 K M a0 x1 kc9 x2 x3 := h
  try dsimp only
  refine x_iload_n E dX11_shelfOf_9 rfl 3 rfl ?_
  refine x_iload_n E dX11_shelfOf_10 rfl 1 rfl ?_
  refine x_icmp_gt (tgt := 29) E dX11_shelfOf_11 (by decide) (fun c3 => ?_) (fun c3 => ?_)
  · replace h := xbr_t h c3
    clear c3
    refine x_iload_n E dX11_shelfOf_29 rfl 2 rfl ?_
    exact x_iret E hr hlk dX11_shelfOf_30 ⟨rfl, h⟩
  · replace h := xbr_f h c3
    clear c3
    refine x_iinc (v := (x2 + (J 1))) (L' := [(2, .int (x2 + (J 1))), (0, .ref a0), (1, .int x1), (3, .int x3)]) E dX11_shelfOf_14 2 rfl rfl (by decide) rfl ?_
    refine x_iload_n E dX11_shelfOf_17 rfl 3 rfl ?_
    refine x_aload_n E dX11_shelfOf_18 rfl 1 rfl ?_
    obtain ⟨hT, q4, hv, h⟩ := h
    refine x_get E flX11_31 dX11_shelfOf_19 hT hv ?_
    clear hT hv
    refine x_iload_n E dX11_shelfOf_22 rfl 0 rfl ?_
    obtain ⟨hT, hi, v5, hv, h⟩ := h
    refine x_iald E dX11_shelfOf_23 hT hi hv ?_
    clear hT hi hv
    refine x_iadd E dX11_shelfOf_24 ?_
    obtain ⟨y6, ey6, h⟩ := h
    refine x_top (v := .int y6) (congrArg _ ey6) ?_
    clear ey6
    refine x_istore_n (L' := [(3, .int y6), (2, .int (x2 + (J 1))), (0, .ref a0), (1, .int x1)]) E dX11_shelfOf_25 rfl (by decide) rfl ?_
    refine x_goto (tgt := 9) E dX11_shelfOf_26 (by decide) ?_
    refine x_sub (L' := [(0, .ref a0), (1, .int x1), (2, .int (x2 + (J 1))), (3, .int y6)]) [2, 3, 1, 0] rfl ?_
    exact hk9 ((x2 + (J 1)), y6) h
theorem dX11_firstOf_0 : decode cX11_firstOf 0 = .ok (.iconst 0, 1) := by decide +kernel
theorem dX11_firstOf_1 : decode cX11_firstOf 1 = .ok (.istore_n 2, 1) := by decide +kernel
theorem dX11_firstOf_2 : decode cX11_firstOf 2 = .ok (.iconst 0, 1) := by decide +kernel
theorem dX11_firstOf_3 : decode cX11_firstOf 3 = .ok (.istore_n 3, 1) := by decide +kernel
theorem dX11_firstOf_4 : decode cX11_firstOf 4 = .ok (.iload_n 3, 1) := by decide +kernel
theorem dX11_firstOf_5 : decode cX11_firstOf 5 = .ok (.iload_n 1, 1) := by decide +kernel
theorem dX11_firstOf_6 : decode cX11_firstOf 6 = .ok (.if_icmp .ge 18, 3) := by decide +kernel
theorem dX11_firstOf_9 : decode cX11_firstOf 9 = .ok (.iload_n 2, 1) := by decide +kernel
theorem dX11_firstOf_10 : decode cX11_firstOf 10 = .ok (.aload_n 0, 1) := by decide +kernel
theorem dX11_firstOf_11 : decode cX11_firstOf 11 = .ok (.getfield 31, 3) := by decide +kernel
theorem dX11_firstOf_14 : decode cX11_firstOf 14 = .ok (.iload_n 3, 1) := by decide +kernel
theorem dX11_firstOf_15 : decode cX11_firstOf 15 = .ok (.iaload, 1) := by decide +kernel
theorem dX11_firstOf_16 : decode cX11_firstOf 16 = .ok (.iadd, 1) := by decide +kernel
theorem dX11_firstOf_17 : decode cX11_firstOf 17 = .ok (.istore_n 2, 1) := by decide +kernel
theorem dX11_firstOf_18 : decode cX11_firstOf 18 = .ok (.iinc 3 1, 3) := by decide +kernel
theorem dX11_firstOf_21 : decode cX11_firstOf 21 = .ok (.goto (-17), 3) := by decide +kernel
theorem dX11_firstOf_24 : decode cX11_firstOf 24 = .ok (.iload_n 2, 1) := by decide +kernel
theorem dX11_firstOf_25 : decode cX11_firstOf 25 = .ok (.ireturn, 1) := by decide +kernel
set_option maxHeartbeats 4000000 in
set_option maxRecDepth 100000 in
theorem kX11_firstOf (l : Launch) (z : Nat) (D : va_G) (cA : Nat → ClassId) (a0 : Nat) (x1 : Int32) (M : Mem) (K : Int32 → Prop) (h : PX11_firstOf a0 x1 M K) : Met l yX11_firstOf (.code yX11_firstOf cX11_firstOf 4 (some .int) :: gtbl) ({ frames := 0, cells := 0, slots := 0, locals := 0 } : Room) (va_Pc [.ref a0, .int x1] (xB z D cA M)) (va_Qi (fun r M1 => M1 = M ∧ K r) (xWd z D cA) (xA z)) 0 0 (xA z) := by
  refine x_met (by decide +kernel) (Nat.le_of_ble_eq_true rfl) (L0 := [(0, .ref a0), (1, .int x1)]) rfl ?_
  intro p e s m args below meth c E hr hlk hnm
  have E : xE RX11 cX11_firstOf 4 D cA p s m args c := E
  replace h := h.2
  refine x_iconst (v := (J 0)) E dX11_firstOf_0 (by decide) ?_
  refine x_istore_n (L' := [(2, .int (J 0)), (0, .ref a0), (1, .int x1)]) E dX11_firstOf_1 rfl (by decide) rfl ?_
  refine x_iconst (v := (J 0)) E dX11_firstOf_2 (by decide) ?_
  refine x_istore_n (L' := [(3, .int (J 0)), (2, .int (J 0)), (0, .ref a0), (1, .int x1)]) E dX11_firstOf_3 rfl (by decide) rfl ?_
  refine x_sub (L' := [(0, .ref a0), (1, .int x1), (2, .int (J 0)), (3, .int (J 0))]) [2, 3, 1, 0] rfl ?_
  refine lp_sound (T := fun sv => xG p l e ({ frames := 0, cells := 0, slots := 0, locals := 0 } : Room) s m args below meth c (MQ below (va_Qi (fun r M1 => M1 = M ∧ K r) (xWd z D cA) (xA z)) args s 0 0 (xA z)) 4 z D cA M (0) (0) 4 [(0, .ref a0), (1, .int x1), (2, .int sv.1), (3, .int sv.2)] []) ?_ ((J 0), (J 0)) h
  clear h
  intro kc4 hk4 sv h
  obtain ⟨x2, x3⟩ := sv
  replace h : CX11_firstOf_4 K M a0 x1 kc4 x2 x3 := h
  try dsimp only
  refine x_iload_n E dX11_firstOf_4 rfl 3 rfl ?_
  refine x_iload_n E dX11_firstOf_5 rfl 1 rfl ?_
  refine x_icmp_ge (tgt := 24) E dX11_firstOf_6 (by decide) (fun c1 => ?_) (fun c1 => ?_)
  · replace h := xbr_t h c1
    clear c1
    refine x_iload_n E dX11_firstOf_24 rfl 2 rfl ?_
    exact x_iret E hr hlk dX11_firstOf_25 ⟨rfl, h⟩
  · replace h := xbr_f h c1
    clear c1
    refine x_iload_n E dX11_firstOf_9 rfl 2 rfl ?_
    refine x_aload_n E dX11_firstOf_10 rfl 0 rfl ?_
    obtain ⟨hT, q2, hv, h⟩ := h
    refine x_get E flX11_31 dX11_firstOf_11 hT hv ?_
    clear hT hv
    refine x_iload_n E dX11_firstOf_14 rfl 3 rfl ?_
    obtain ⟨hT, hi, v3, hv, h⟩ := h
    refine x_iald E dX11_firstOf_15 hT hi hv ?_
    clear hT hi hv
    refine x_iadd E dX11_firstOf_16 ?_
    obtain ⟨y4, ey4, h⟩ := h
    refine x_top (v := .int y4) (congrArg _ ey4) ?_
    clear ey4
    refine x_istore_n (L' := [(2, .int y4), (0, .ref a0), (1, .int x1), (3, .int x3)]) E dX11_firstOf_17 rfl (by decide) rfl ?_
    refine x_iinc (v := (x3 + (J 1))) (L' := [(3, .int (x3 + (J 1))), (2, .int y4), (0, .ref a0), (1, .int x1)]) E dX11_firstOf_18 3 rfl rfl (by decide) rfl ?_
    refine x_goto (tgt := 4) E dX11_firstOf_21 (by decide) ?_
    refine x_sub (L' := [(0, .ref a0), (1, .int x1), (2, .int y4), (3, .int (x3 + (J 1)))]) [2, 3, 1, 0] rfl ?_
    exact hk4 (y4, (x3 + (J 1))) h
theorem dX11_book_0 : decode cX11_book 0 = .ok (.aload_n 0, 1) := by decide +kernel
theorem dX11_book_1 : decode cX11_book 1 = .ok (.iload_n 1, 1) := by decide +kernel
theorem dX11_book_2 : decode cX11_book 2 = .ok (.invokevirtual 163, 3) := by decide +kernel
theorem dX11_book_5 : decode cX11_book 5 = .ok (.ifCond .ne 7, 3) := by decide +kernel
theorem dX11_book_8 : decode cX11_book 8 = .ok (.sipush (-1001), 3) := by decide +kernel
theorem dX11_book_11 : decode cX11_book 11 = .ok (.ireturn, 1) := by decide +kernel
theorem dX11_book_12 : decode cX11_book 12 = .ok (.aload_n 0, 1) := by decide +kernel
theorem dX11_book_13 : decode cX11_book 13 = .ok (.iload_n 1, 1) := by decide +kernel
theorem dX11_book_14 : decode cX11_book 14 = .ok (.invokevirtual 167, 3) := by decide +kernel
theorem dX11_book_17 : decode cX11_book 17 = .ok (.istore_n 3, 1) := by decide +kernel
theorem dX11_book_18 : decode cX11_book 18 = .ok (.iload_n 2, 1) := by decide +kernel
theorem dX11_book_19 : decode cX11_book 19 = .ok (.tableswitch 107 0 4 #[33, 53, 66, 73, 87], 33) := by decide +kernel
theorem dX11_book_52 : decode cX11_book 52 = .ok (.aload_n 0, 1) := by decide +kernel
theorem dX11_book_53 : decode cX11_book 53 = .ok (.getfield 7, 3) := by decide +kernel
theorem dX11_book_56 : decode cX11_book 56 = .ok (.bipush 16, 2) := by decide +kernel
theorem dX11_book_58 : decode cX11_book 58 = .ok (.iload_n 1, 1) := by decide +kernel
theorem dX11_book_59 : decode cX11_book 59 = .ok (.imul, 1) := by decide +kernel
theorem dX11_book_60 : decode cX11_book 60 = .ok (.iconst 2, 1) := by decide +kernel
theorem dX11_book_61 : decode cX11_book 61 = .ok (.iadd, 1) := by decide +kernel
theorem dX11_book_62 : decode cX11_book 62 = .ok (.aload_n 0, 1) := by decide +kernel
theorem dX11_book_63 : decode cX11_book 63 = .ok (.getfield 13, 3) := by decide +kernel
theorem dX11_book_66 : decode cX11_book 66 = .ok (.iload_n 1, 1) := by decide +kernel
theorem dX11_book_67 : decode cX11_book 67 = .ok (.iaload, 1) := by decide +kernel
theorem dX11_book_68 : decode cX11_book 68 = .ok (.invokestatic 170, 3) := by decide +kernel
theorem dX11_book_71 : decode cX11_book 71 = .ok (.ireturn, 1) := by decide +kernel
theorem dX11_book_72 : decode cX11_book 72 = .ok (.aload_n 0, 1) := by decide +kernel
theorem dX11_book_73 : decode cX11_book 73 = .ok (.getfield 7, 3) := by decide +kernel
theorem dX11_book_76 : decode cX11_book 76 = .ok (.bipush 16, 2) := by decide +kernel
theorem dX11_book_78 : decode cX11_book 78 = .ok (.iload_n 1, 1) := by decide +kernel
theorem dX11_book_79 : decode cX11_book 79 = .ok (.imul, 1) := by decide +kernel
theorem dX11_book_80 : decode cX11_book 80 = .ok (.bipush 15, 2) := by decide +kernel
theorem dX11_book_82 : decode cX11_book 82 = .ok (.iadd, 1) := by decide +kernel
theorem dX11_book_83 : decode cX11_book 83 = .ok (.iaload, 1) := by decide +kernel
theorem dX11_book_84 : decode cX11_book 84 = .ok (.ireturn, 1) := by decide +kernel
theorem dX11_book_85 : decode cX11_book 85 = .ok (.aload_n 0, 1) := by decide +kernel
theorem dX11_book_86 : decode cX11_book 86 = .ok (.getfield 22, 3) := by decide +kernel
theorem dX11_book_89 : decode cX11_book 89 = .ok (.iload_n 1, 1) := by decide +kernel
theorem dX11_book_90 : decode cX11_book 90 = .ok (.iaload, 1) := by decide +kernel
theorem dX11_book_91 : decode cX11_book 91 = .ok (.ireturn, 1) := by decide +kernel
theorem dX11_book_92 : decode cX11_book 92 = .ok (.iload_n 3, 1) := by decide +kernel
theorem dX11_book_93 : decode cX11_book 93 = .ok (.ifCond .ge 7, 3) := by decide +kernel
theorem dX11_book_96 : decode cX11_book 96 = .ok (.iconst (-1), 1) := by decide +kernel
theorem dX11_book_97 : decode cX11_book 97 = .ok (.goto 8, 3) := by decide +kernel
theorem dX11_book_100 : decode cX11_book 100 = .ok (.aload_n 0, 1) := by decide +kernel
theorem dX11_book_101 : decode cX11_book 101 = .ok (.iload_n 3, 1) := by decide +kernel
theorem dX11_book_102 : decode cX11_book 102 = .ok (.invokevirtual 174, 3) := by decide +kernel
theorem dX11_book_105 : decode cX11_book 105 = .ok (.ireturn, 1) := by decide +kernel
theorem dX11_book_106 : decode cX11_book 106 = .ok (.iload_n 3, 1) := by decide +kernel
theorem dX11_book_107 : decode cX11_book 107 = .ok (.ifCond .ge 7, 3) := by decide +kernel
theorem dX11_book_110 : decode cX11_book 110 = .ok (.iconst (-1), 1) := by decide +kernel
theorem dX11_book_111 : decode cX11_book 111 = .ok (.goto 14, 3) := by decide +kernel
theorem dX11_book_114 : decode cX11_book 114 = .ok (.iload_n 3, 1) := by decide +kernel
theorem dX11_book_115 : decode cX11_book 115 = .ok (.aload_n 0, 1) := by decide +kernel
theorem dX11_book_116 : decode cX11_book 116 = .ok (.aload_n 0, 1) := by decide +kernel
theorem dX11_book_117 : decode cX11_book 117 = .ok (.iload_n 3, 1) := by decide +kernel
theorem dX11_book_118 : decode cX11_book 118 = .ok (.invokevirtual 174, 3) := by decide +kernel
theorem dX11_book_121 : decode cX11_book 121 = .ok (.invokevirtual 177, 3) := by decide +kernel
theorem dX11_book_124 : decode cX11_book 124 = .ok (.isub, 1) := by decide +kernel
theorem dX11_book_125 : decode cX11_book 125 = .ok (.ireturn, 1) := by decide +kernel
theorem dX11_book_126 : decode cX11_book 126 = .ok (.sipush (-1002), 3) := by decide +kernel
theorem dX11_book_129 : decode cX11_book 129 = .ok (.ireturn, 1) := by decide +kernel
set_option maxHeartbeats 4000000 in
set_option maxRecDepth 100000 in
theorem kX11_book (l : Launch) (z : Nat) (D : va_G) (cA : Nat → ClassId) (a0 : Nat) (x1 : Int32) (x2 : Int32) (M : Mem) (K : Int32 → Prop) (h : PX11_book a0 x1 x2 M K) : Met l yX11_book (.code yX11_book cX11_book 4 (some .int) :: gtbl) ({ frames := 2, cells := 0, slots := 0, locals := 46 } : Room) (va_Pc [.ref a0, .int x1, .int x2] (xB z D cA M)) (va_Qi (fun r M1 => M1 = M ∧ K r) (xWd z D cA) (xA z)) 0 0 (xA z) := by
  refine x_met (by decide +kernel) (Nat.le_of_ble_eq_true rfl) (L0 := [(0, .ref a0), (1, .int x1), (2, .int x2)]) rfl ?_
  intro p e s m args below meth c E hr hlk hnm
  have E : xE RX11 cX11_book 4 D cA p s m args c := E
  replace h := h.2
  refine x_aload_n E dX11_book_0 rfl 0 rfl ?_
  refine x_iload_n E dX11_book_1 rfl 1 rfl ?_
  refine x_callVi (T := TX11) (N := 32) (t := 12) (As := [.int x1]) E mlX11_163 inX11_isBook seX11_isBook rfl ⟨by decide, by decide⟩ (tX11_isBook h) (kX11_isBook l z D cA a0 x1 M _ h) rfl ⟨rfl, rfl⟩ ⟨Nat.le_of_ble_eq_true rfl, Nat.le_of_ble_eq_true rfl⟩ ⟨(Nat.le_of_ble_eq_true rfl), (Nat.le_of_ble_eq_true rfl)⟩ (Nat.le_of_ble_eq_true rfl) rfl dX11_book_2 (x_pure (fun r1 h => ?_))
  refine x_if_ne (tgt := 12) E dX11_book_5 (by decide) (fun c3 => ?_) (fun c3 => ?_)
  · replace h := xbr_f h c3
    clear c3
    refine x_aload_n E dX11_book_12 rfl 0 rfl ?_
    refine x_iload_n E dX11_book_13 rfl 1 rfl ?_
    refine x_callVi (T := TX11) (N := 32) (t := 12) (As := [.int x1]) E mlX11_167 inX11_placeOf seX11_placeOf rfl ⟨by decide, by decide⟩ (tX11_placeOf h) (kX11_placeOf l z D cA a0 x1 M _ h) rfl ⟨rfl, rfl⟩ ⟨Nat.le_of_ble_eq_true rfl, Nat.le_of_ble_eq_true rfl⟩ ⟨(Nat.le_of_ble_eq_true rfl), (Nat.le_of_ble_eq_true rfl)⟩ (Nat.le_of_ble_eq_true rfl) rfl dX11_book_14 (x_pure (fun r4 h => ?_))
    refine x_istore_n (L' := [(3, .int r4), (0, .ref a0), (1, .int x1), (2, .int x2)]) E dX11_book_17 rfl (by decide) rfl ?_
    refine x_iload_n E dX11_book_18 rfl 3 rfl ?_
    by_cases c6 : x2 = (J 0)
    · replace h := xbr_t h c6
      refine x_tableIn (off := 33) (tgt := 52) E dX11_book_19 (by rw [c6]; decide) (by rw [c6]; decide) (by rw [c6]; decide) (by decide) ?_
      refine x_aload_n E dX11_book_52 rfl 1 rfl ?_
      obtain ⟨hT, q7, hv, h⟩ := h
      refine x_get E flX11_7 dX11_book_53 hT hv ?_
      clear hT hv
      refine x_bipush (v := (J 16)) E dX11_book_56 (by decide) ?_
      refine x_iload_n E dX11_book_58 rfl 2 rfl ?_
      refine x_imul E dX11_book_59 ?_
      refine x_iconst (v := (J 2)) E dX11_book_60 (by decide) ?_
      refine x_iadd E dX11_book_61 ?_
      refine x_aload_n E dX11_book_62 rfl 1 rfl ?_
      obtain ⟨hT, q8, hv, h⟩ := h
      refine x_get E flX11_13 dX11_book_63 hT hv ?_
      clear hT hv
      refine x_iload_n E dX11_book_66 rfl 2 rfl ?_
      obtain ⟨hT, hi, v9, hv, h⟩ := h
      refine x_iald E dX11_book_67 hT hi hv ?_
      clear hT hi hv
      refine x_callSi (As := [.ref q7, .int (((J 16) * x1) + (J 2)), .int v9]) E mlX11_170 rfl stX11_whole (kX11_whole l z D cA q7 (((J 16) * x1) + (J 2)) v9 M _ h) rfl ⟨rfl, rfl⟩ ⟨Nat.le_of_ble_eq_true rfl, Nat.le_of_ble_eq_true rfl⟩ ⟨(Nat.le_of_ble_eq_true rfl), (Nat.le_of_ble_eq_true rfl)⟩ (Nat.le_of_ble_eq_true rfl) rfl dX11_book_68 (x_pure (fun r10 h => ?_))
      exact x_iret E hr hlk dX11_book_71 ⟨rfl, h⟩
    replace h := xbr_f h c6
    by_cases c12 : x2 = (J 1)
    · replace h := xbr_t h c12
      refine x_tableIn (off := 53) (tgt := 72) E dX11_book_19 (by rw [c12]; decide) (by rw [c12]; decide) (by rw [c12]; decide) (by decide) ?_
      refine x_aload_n E dX11_book_72 rfl 1 rfl ?_
      obtain ⟨hT, q13, hv, h⟩ := h
      refine x_get E flX11_7 dX11_book_73 hT hv ?_
      clear hT hv
      refine x_bipush (v := (J 16)) E dX11_book_76 (by decide) ?_
      refine x_iload_n E dX11_book_78 rfl 2 rfl ?_
      refine x_imul E dX11_book_79 ?_
      refine x_bipush (v := (J 15)) E dX11_book_80 (by decide) ?_
      refine x_iadd E dX11_book_82 ?_
      obtain ⟨hT, hi, v14, hv, h⟩ := h
      refine x_iald E dX11_book_83 hT hi hv ?_
      clear hT hi hv
      exact x_iret E hr hlk dX11_book_84 ⟨rfl, h⟩
    replace h := xbr_f h c12
    by_cases c15 : x2 = (J 2)
    · replace h := xbr_t h c15
      refine x_tableIn (off := 66) (tgt := 85) E dX11_book_19 (by rw [c15]; decide) (by rw [c15]; decide) (by rw [c15]; decide) (by decide) ?_
      refine x_aload_n E dX11_book_85 rfl 1 rfl ?_
      obtain ⟨hT, q16, hv, h⟩ := h
      refine x_get E flX11_22 dX11_book_86 hT hv ?_
      clear hT hv
      refine x_iload_n E dX11_book_89 rfl 2 rfl ?_
      obtain ⟨hT, hi, v17, hv, h⟩ := h
      refine x_iald E dX11_book_90 hT hi hv ?_
      clear hT hi hv
      exact x_iret E hr hlk dX11_book_91 ⟨rfl, h⟩
    replace h := xbr_f h c15
    by_cases c18 : x2 = (J 3)
    · replace h := xbr_t h c18
      refine x_tableIn (off := 73) (tgt := 92) E dX11_book_19 (by rw [c18]; decide) (by rw [c18]; decide) (by rw [c18]; decide) (by decide) ?_
      refine x_iload_n E dX11_book_92 rfl 0 rfl ?_
      refine x_if_ge (tgt := 100) E dX11_book_93 (by decide) (fun c19 => ?_) (fun c19 => ?_)
      · replace h := xbr_t h c19
        clear c19
        refine x_aload_n E dX11_book_100 rfl 1 rfl ?_
        refine x_iload_n E dX11_book_101 rfl 0 rfl ?_
        refine x_callVi (T := TX11) (N := 32) (t := 12) (As := [.int r4]) E mlX11_174 inX11_shelfOf seX11_shelfOf rfl ⟨by decide, by decide⟩ (tX11_shelfOf h) (kX11_shelfOf l z D cA a0 r4 M _ h) rfl ⟨rfl, rfl⟩ ⟨Nat.le_of_ble_eq_true rfl, Nat.le_of_ble_eq_true rfl⟩ ⟨(Nat.le_of_ble_eq_true rfl), (Nat.le_of_ble_eq_true rfl)⟩ (Nat.le_of_ble_eq_true rfl) rfl dX11_book_102 (x_pure (fun r20 h => ?_))
        exact x_iret E hr hlk dX11_book_105 ⟨rfl, h⟩
      · replace h := xbr_f h c19
        clear c19
        refine x_iconst (v := (J (-1))) E dX11_book_96 (by decide) ?_
        refine x_goto (tgt := 105) E dX11_book_97 (by decide) ?_
        exact x_iret E hr hlk dX11_book_105 ⟨rfl, h⟩
    replace h := xbr_f h c18
    by_cases c22 : x2 = (J 4)
    · replace h := xbr_t h c22
      refine x_tableIn (off := 87) (tgt := 106) E dX11_book_19 (by rw [c22]; decide) (by rw [c22]; decide) (by rw [c22]; decide) (by decide) ?_
      refine x_iload_n E dX11_book_106 rfl 0 rfl ?_
      refine x_if_ge (tgt := 114) E dX11_book_107 (by decide) (fun c23 => ?_) (fun c23 => ?_)
      · replace h := xbr_t h c23
        clear c23
        refine x_iload_n E dX11_book_114 rfl 0 rfl ?_
        refine x_aload_n E dX11_book_115 rfl 1 rfl ?_
        refine x_aload_n E dX11_book_116 rfl 1 rfl ?_
        refine x_iload_n E dX11_book_117 rfl 0 rfl ?_
        refine x_callVi (T := TX11) (N := 32) (t := 12) (As := [.int r4]) E mlX11_174 inX11_shelfOf seX11_shelfOf rfl ⟨by decide, by decide⟩ (tX11_shelfOf h) (kX11_shelfOf l z D cA a0 r4 M _ h) rfl ⟨rfl, rfl⟩ ⟨Nat.le_of_ble_eq_true rfl, Nat.le_of_ble_eq_true rfl⟩ ⟨(Nat.le_of_ble_eq_true rfl), (Nat.le_of_ble_eq_true rfl)⟩ (Nat.le_of_ble_eq_true rfl) rfl dX11_book_118 (x_pure (fun r24 h => ?_))
        refine x_callVi (T := TX11) (N := 32) (t := 12) (As := [.int r24]) E mlX11_177 inX11_firstOf seX11_firstOf rfl ⟨by decide, by decide⟩ (tX11_firstOf h) (kX11_firstOf l z D cA a0 r24 M _ h) rfl ⟨rfl, rfl⟩ ⟨Nat.le_of_ble_eq_true rfl, Nat.le_of_ble_eq_true rfl⟩ ⟨(Nat.le_of_ble_eq_true rfl), (Nat.le_of_ble_eq_true rfl)⟩ (Nat.le_of_ble_eq_true rfl) rfl dX11_book_121 (x_pure (fun r26 h => ?_))
        refine x_isub E dX11_book_124 ?_
        exact x_iret E hr hlk dX11_book_125 ⟨rfl, h⟩
      · replace h := xbr_f h c23
        clear c23
        refine x_iconst (v := (J (-1))) E dX11_book_110 (by decide) ?_
        refine x_goto (tgt := 125) E dX11_book_111 (by decide) ?_
        exact x_iret E hr hlk dX11_book_125 ⟨rfl, h⟩
    replace h := xbr_f h c22
    have nc6 := lv_neT c6 (a := 0) (by decide)
    have nc12 := lv_neT c12 (a := 1) (by decide)
    have nc15 := lv_neT c15 (a := 2) (by decide)
    have nc18 := lv_neT c18 (a := 3) (by decide)
    have nc22 := lv_neT c22 (a := 4) (by decide)
    refine x_tableOut (tgt := 126) E dX11_book_19 (by omega) (by decide) ?_
    clear c6 c12 c15 c18 c22
    clear nc6 nc12 nc15 nc18 nc22
    refine x_sipush (v := (J (-1002))) E dX11_book_126 (by decide) ?_
    exact x_iret E hr hlk dX11_book_129 ⟨rfl, h⟩
  · replace h := xbr_t h c3
    clear c3
    refine x_sipush (v := (J (-1001))) E dX11_book_8 (by decide) ?_
    exact x_iret E hr hlk dX11_book_11 ⟨rfl, h⟩
theorem dX11_write_0 : decode cX11_write 0 = .ok (.aload_n 0, 1) := by decide +kernel
theorem dX11_write_1 : decode cX11_write 1 = .ok (.getfield 44, 3) := by decide +kernel
theorem dX11_write_4 : decode cX11_write 4 = .ok (.aload_n 0, 1) := by decide +kernel
theorem dX11_write_5 : decode cX11_write 5 = .ok (.getfield 180, 3) := by decide +kernel
theorem dX11_write_8 : decode cX11_write 8 = .ok (.iload_n 1, 1) := by decide +kernel
theorem dX11_write_9 : decode cX11_write 9 = .ok (.iastore, 1) := by decide +kernel
theorem dX11_write_10 : decode cX11_write 10 = .ok (.aload_n 0, 1) := by decide +kernel
theorem dX11_write_11 : decode cX11_write 11 = .ok (.dup, 1) := by decide +kernel
theorem dX11_write_12 : decode cX11_write 12 = .ok (.getfield 180, 3) := by decide +kernel
theorem dX11_write_15 : decode cX11_write 15 = .ok (.iconst 1, 1) := by decide +kernel
theorem dX11_write_16 : decode cX11_write 16 = .ok (.iadd, 1) := by decide +kernel
theorem dX11_write_17 : decode cX11_write 17 = .ok (.putfield 180, 3) := by decide +kernel
theorem dX11_write_20 : decode cX11_write 20 = .ok (.return_, 1) := by decide +kernel
set_option maxHeartbeats 4000000 in
set_option maxRecDepth 100000 in
theorem kX11_write (l : Launch) (z : Nat) (D : va_G) (cA : Nat → ClassId) (a0 : Nat) (x1 : Int32) (M : Mem) (K : Mem → Prop) (h : PX11_write a0 x1 M K) : Met l yX11_write (.code yX11_write cX11_write 2 none :: gtbl) ({ frames := 0, cells := 0, slots := 0, locals := 0 } : Room) (va_Pc [.ref a0, .int x1] (xB z D cA M)) (va_Qv K (xWd z D cA) (xA z)) 0 0 (xA z) := by
  refine x_met (by decide +kernel) (Nat.le_of_ble_eq_true rfl) (L0 := [(0, .ref a0), (1, .int x1)]) rfl ?_
  intro p e s m args below meth c E hr hlk hnm
  have E : xE RX11 cX11_write 2 D cA p s m args c := E
  replace h := h.2
  refine x_aload_n E dX11_write_0 rfl 0 rfl ?_
  obtain ⟨hT, q1, hv, h⟩ := h
  refine x_get E flX11_44 dX11_write_1 hT hv ?_
  clear hT hv
  refine x_aload_n E dX11_write_4 rfl 0 rfl ?_
  obtain ⟨hT, v2, hv, h⟩ := h
  refine x_get E flX11_180 dX11_write_5 hT hv ?_
  clear hT hv
  refine x_iload_n E dX11_write_8 rfl 1 rfl ?_
  obtain ⟨hT, hi, h⟩ := h
  refine x_iast E dX11_write_9 hT hi (fun M3 eM3 => ?_)
  replace h := h M3 eM3
  clear hT hi eM3
  refine x_aload_n E dX11_write_10 rfl 0 rfl ?_
  refine x_dup E dX11_write_11 rfl ?_
  obtain ⟨hT, v4, hv, h⟩ := h
  refine x_get E flX11_180 dX11_write_12 hT hv ?_
  clear hT hv
  refine x_iconst (v := (J 1)) E dX11_write_15 (by decide) ?_
  refine x_iadd E dX11_write_16 ?_
  obtain ⟨hT, h⟩ := h
  refine x_put E flX11_180 ⟨tyX11_ok, nmX11, rfl⟩ (by decide +kernel) rfl rfl dX11_write_17 hT (fun M5 eM5 => ?_)
  replace h := h M5 eM5
  clear hT eM5
  exact x_vret E hr hlk dX11_write_20 h
theorem dX11_writeFigures_0 : decode cX11_writeFigures 0 = .ok (.iconst 0, 1) := by decide +kernel
theorem dX11_writeFigures_1 : decode cX11_writeFigures 1 = .ok (.istore_n 3, 1) := by decide +kernel
theorem dX11_writeFigures_2 : decode cX11_writeFigures 2 = .ok (.iload_n 3, 1) := by decide +kernel
theorem dX11_writeFigures_3 : decode cX11_writeFigures 3 = .ok (.iload_n 2, 1) := by decide +kernel
theorem dX11_writeFigures_4 : decode cX11_writeFigures 4 = .ok (.if_icmp .ge 24, 3) := by decide +kernel
theorem dX11_writeFigures_7 : decode cX11_writeFigures 7 = .ok (.aload_n 0, 1) := by decide +kernel
theorem dX11_writeFigures_8 : decode cX11_writeFigures 8 = .ok (.bipush 48, 2) := by decide +kernel
theorem dX11_writeFigures_10 : decode cX11_writeFigures 10 = .ok (.aload_n 0, 1) := by decide +kernel
theorem dX11_writeFigures_11 : decode cX11_writeFigures 11 = .ok (.getfield 7, 3) := by decide +kernel
theorem dX11_writeFigures_14 : decode cX11_writeFigures 14 = .ok (.iload_n 1, 1) := by decide +kernel
theorem dX11_writeFigures_15 : decode cX11_writeFigures 15 = .ok (.iload_n 3, 1) := by decide +kernel
theorem dX11_writeFigures_16 : decode cX11_writeFigures 16 = .ok (.iadd, 1) := by decide +kernel
theorem dX11_writeFigures_17 : decode cX11_writeFigures 17 = .ok (.iaload, 1) := by decide +kernel
theorem dX11_writeFigures_18 : decode cX11_writeFigures 18 = .ok (.iadd, 1) := by decide +kernel
theorem dX11_writeFigures_19 : decode cX11_writeFigures 19 = .ok (.invokevirtual 183, 3) := by decide +kernel
theorem dX11_writeFigures_22 : decode cX11_writeFigures 22 = .ok (.iinc 3 1, 3) := by decide +kernel
theorem dX11_writeFigures_25 : decode cX11_writeFigures 25 = .ok (.goto (-23), 3) := by decide +kernel
theorem dX11_writeFigures_28 : decode cX11_writeFigures 28 = .ok (.return_, 1) := by decide +kernel
set_option maxHeartbeats 4000000 in
set_option maxRecDepth 100000 in
theorem kX11_writeFigures (l : Launch) (z : Nat) (D : va_G) (cA : Nat → ClassId) (a0 : Nat) (x1 : Int32) (x2 : Int32) (M : Mem) (K : Mem → Prop) (h : PX11_writeFigures a0 x1 x2 M K) : Met l yX11_writeFigures (.code yX11_writeFigures cX11_writeFigures 4 none :: gtbl) ({ frames := 1, cells := 0, slots := 0, locals := 21 } : Room) (va_Pc [.ref a0, .int x1, .int x2] (xB z D cA M)) (va_Qv K (xWd z D cA) (xA z)) 0 0 (xA z) := by
  refine x_met (by decide +kernel) (Nat.le_of_ble_eq_true rfl) (L0 := [(0, .ref a0), (1, .int x1), (2, .int x2)]) rfl ?_
  intro p e s m args below meth c E hr hlk hnm
  have E : xE RX11 cX11_writeFigures 4 D cA p s m args c := E
  replace h := h.2
  refine x_iconst (v := (J 0)) E dX11_writeFigures_0 (by decide) ?_
  refine x_istore_n (L' := [(3, .int (J 0)), (0, .ref a0), (1, .int x1), (2, .int x2)]) E dX11_writeFigures_1 rfl (by decide) rfl ?_
  refine x_sub (L' := [(0, .ref a0), (1, .int x1), (2, .int x2), (3, .int (J 0))]) [1, 2, 3, 0] rfl ?_
  refine lp_sound (T := fun sv => xG p l e ({ frames := 1, cells := 0, slots := 0, locals := 21 } : Room) s m args below meth c (MQ below (va_Qv K (xWd z D cA) (xA z)) args s 0 0 (xA z)) 4 z D cA sv.1 (0) (0) 2 [(0, .ref a0), (1, .int x1), (2, .int x2), (3, .int sv.2)] []) ?_ (M, (J 0)) h
  clear h
  intro kc2 hk2 sv h
  obtain ⟨M, x3⟩ := sv
  replace h : CX11_writeFigures_2 K a0 x1 x2 kc2 M x3 := h
  try dsimp only
  refine x_iload_n E dX11_writeFigures_2 rfl 3 rfl ?_
  refine x_iload_n E dX11_writeFigures_3 rfl 2 rfl ?_
  refine x_icmp_ge (tgt := 28) E dX11_writeFigures_4 (by decide) (fun c1 => ?_) (fun c1 => ?_)
  · replace h := xbr_t h c1
    clear c1
    exact x_vret E hr hlk dX11_writeFigures_28 h
  · replace h := xbr_f h c1
    clear c1
    refine x_aload_n E dX11_writeFigures_7 rfl 0 rfl ?_
    refine x_bipush (v := (J 48)) E dX11_writeFigures_8 (by decide) ?_
    refine x_aload_n E dX11_writeFigures_10 rfl 0 rfl ?_
    obtain ⟨hT, q2, hv, h⟩ := h
    refine x_get E flX11_7 dX11_writeFigures_11 hT hv ?_
    clear hT hv
    refine x_iload_n E dX11_writeFigures_14 rfl 1 rfl ?_
    refine x_iload_n E dX11_writeFigures_15 rfl 3 rfl ?_
    refine x_iadd E dX11_writeFigures_16 ?_
    obtain ⟨hT, hi, v3, hv, h⟩ := h
    refine x_iald E dX11_writeFigures_17 hT hi hv ?_
    clear hT hi hv
    refine x_iadd E dX11_writeFigures_18 ?_
    refine x_callVv (T := TX11) (N := 32) (t := 12) (As := [.int ((J 48) + v3)]) E mlX11_183 inX11_write seX11_write rfl ⟨by decide, by decide⟩ (tX11_write h) (kX11_write l z D cA a0 ((J 48) + v3) M _ h) rfl ⟨rfl, rfl⟩ ⟨Nat.le_of_ble_eq_true rfl, Nat.le_of_ble_eq_true rfl⟩ ⟨(Nat.le_of_ble_eq_true rfl), (Nat.le_of_ble_eq_true rfl)⟩ (Nat.le_of_ble_eq_true rfl) rfl dX11_writeFigures_19 (fun M5 h => ?_)
    refine x_iinc (v := (x3 + (J 1))) (L' := [(3, .int (x3 + (J 1))), (0, .ref a0), (1, .int x1), (2, .int x2)]) E dX11_writeFigures_22 3 rfl rfl (by decide) rfl ?_
    refine x_goto (tgt := 2) E dX11_writeFigures_25 (by decide) ?_
    refine x_sub (L' := [(0, .ref a0), (1, .int x1), (2, .int x2), (3, .int (x3 + (J 1)))]) [1, 2, 3, 0] rfl ?_
    exact hk2 (M5, (x3 + (J 1))) h
theorem dX11_writeMark_0 : decode cX11_writeMark 0 = .ok (.bipush 16, 2) := by decide +kernel
theorem dX11_writeMark_2 : decode cX11_writeMark 2 = .ok (.iload_n 1, 1) := by decide +kernel
theorem dX11_writeMark_3 : decode cX11_writeMark 3 = .ok (.imul, 1) := by decide +kernel
theorem dX11_writeMark_4 : decode cX11_writeMark 4 = .ok (.istore_n 2, 1) := by decide +kernel
theorem dX11_writeMark_5 : decode cX11_writeMark 5 = .ok (.aload_n 0, 1) := by decide +kernel
theorem dX11_writeMark_6 : decode cX11_writeMark 6 = .ok (.iconst 0, 1) := by decide +kernel
theorem dX11_writeMark_7 : decode cX11_writeMark 7 = .ok (.putfield 180, 3) := by decide +kernel
theorem dX11_writeMark_10 : decode cX11_writeMark 10 = .ok (.aload_n 0, 1) := by decide +kernel
theorem dX11_writeMark_11 : decode cX11_writeMark 11 = .ok (.bipush 97, 2) := by decide +kernel
theorem dX11_writeMark_13 : decode cX11_writeMark 13 = .ok (.aload_n 0, 1) := by decide +kernel
theorem dX11_writeMark_14 : decode cX11_writeMark 14 = .ok (.getfield 7, 3) := by decide +kernel
theorem dX11_writeMark_17 : decode cX11_writeMark 17 = .ok (.iload_n 2, 1) := by decide +kernel
theorem dX11_writeMark_18 : decode cX11_writeMark 18 = .ok (.iaload, 1) := by decide +kernel
theorem dX11_writeMark_19 : decode cX11_writeMark 19 = .ok (.iadd, 1) := by decide +kernel
theorem dX11_writeMark_20 : decode cX11_writeMark 20 = .ok (.invokevirtual 183, 3) := by decide +kernel
theorem dX11_writeMark_23 : decode cX11_writeMark 23 = .ok (.aload_n 0, 1) := by decide +kernel
theorem dX11_writeMark_24 : decode cX11_writeMark 24 = .ok (.getfield 7, 3) := by decide +kernel
theorem dX11_writeMark_27 : decode cX11_writeMark 27 = .ok (.iload_n 2, 1) := by decide +kernel
theorem dX11_writeMark_28 : decode cX11_writeMark 28 = .ok (.iconst 1, 1) := by decide +kernel
theorem dX11_writeMark_29 : decode cX11_writeMark 29 = .ok (.iadd, 1) := by decide +kernel
theorem dX11_writeMark_30 : decode cX11_writeMark 30 = .ok (.iaload, 1) := by decide +kernel
theorem dX11_writeMark_31 : decode cX11_writeMark 31 = .ok (.ifCond .lt 18, 3) := by decide +kernel
theorem dX11_writeMark_34 : decode cX11_writeMark 34 = .ok (.aload_n 0, 1) := by decide +kernel
theorem dX11_writeMark_35 : decode cX11_writeMark 35 = .ok (.bipush 97, 2) := by decide +kernel
theorem dX11_writeMark_37 : decode cX11_writeMark 37 = .ok (.aload_n 0, 1) := by decide +kernel
theorem dX11_writeMark_38 : decode cX11_writeMark 38 = .ok (.getfield 7, 3) := by decide +kernel
theorem dX11_writeMark_41 : decode cX11_writeMark 41 = .ok (.iload_n 2, 1) := by decide +kernel
theorem dX11_writeMark_42 : decode cX11_writeMark 42 = .ok (.iconst 1, 1) := by decide +kernel
theorem dX11_writeMark_43 : decode cX11_writeMark 43 = .ok (.iadd, 1) := by decide +kernel
theorem dX11_writeMark_44 : decode cX11_writeMark 44 = .ok (.iaload, 1) := by decide +kernel
theorem dX11_writeMark_45 : decode cX11_writeMark 45 = .ok (.iadd, 1) := by decide +kernel
theorem dX11_writeMark_46 : decode cX11_writeMark 46 = .ok (.invokevirtual 183, 3) := by decide +kernel
theorem dX11_writeMark_49 : decode cX11_writeMark 49 = .ok (.aload_n 0, 1) := by decide +kernel
theorem dX11_writeMark_50 : decode cX11_writeMark 50 = .ok (.iload_n 2, 1) := by decide +kernel
theorem dX11_writeMark_51 : decode cX11_writeMark 51 = .ok (.iconst 2, 1) := by decide +kernel
theorem dX11_writeMark_52 : decode cX11_writeMark 52 = .ok (.iadd, 1) := by decide +kernel
theorem dX11_writeMark_53 : decode cX11_writeMark 53 = .ok (.aload_n 0, 1) := by decide +kernel
theorem dX11_writeMark_54 : decode cX11_writeMark 54 = .ok (.getfield 13, 3) := by decide +kernel
theorem dX11_writeMark_57 : decode cX11_writeMark 57 = .ok (.iload_n 1, 1) := by decide +kernel
theorem dX11_writeMark_58 : decode cX11_writeMark 58 = .ok (.iaload, 1) := by decide +kernel
theorem dX11_writeMark_59 : decode cX11_writeMark 59 = .ok (.invokevirtual 187, 3) := by decide +kernel
theorem dX11_writeMark_62 : decode cX11_writeMark 62 = .ok (.aload_n 0, 1) := by decide +kernel
theorem dX11_writeMark_63 : decode cX11_writeMark 63 = .ok (.getfield 16, 3) := by decide +kernel
theorem dX11_writeMark_66 : decode cX11_writeMark 66 = .ok (.iload_n 1, 1) := by decide +kernel
theorem dX11_writeMark_67 : decode cX11_writeMark 67 = .ok (.iaload, 1) := by decide +kernel
theorem dX11_writeMark_68 : decode cX11_writeMark 68 = .ok (.ifCond .le 23, 3) := by decide +kernel
theorem dX11_writeMark_71 : decode cX11_writeMark 71 = .ok (.aload_n 0, 1) := by decide +kernel
theorem dX11_writeMark_72 : decode cX11_writeMark 72 = .ok (.bipush 46, 2) := by decide +kernel
theorem dX11_writeMark_74 : decode cX11_writeMark 74 = .ok (.invokevirtual 183, 3) := by decide +kernel
theorem dX11_writeMark_77 : decode cX11_writeMark 77 = .ok (.aload_n 0, 1) := by decide +kernel
theorem dX11_writeMark_78 : decode cX11_writeMark 78 = .ok (.iload_n 2, 1) := by decide +kernel
theorem dX11_writeMark_79 : decode cX11_writeMark 79 = .ok (.bipush 6, 2) := by decide +kernel
theorem dX11_writeMark_81 : decode cX11_writeMark 81 = .ok (.iadd, 1) := by decide +kernel
theorem dX11_writeMark_82 : decode cX11_writeMark 82 = .ok (.aload_n 0, 1) := by decide +kernel
theorem dX11_writeMark_83 : decode cX11_writeMark 83 = .ok (.getfield 16, 3) := by decide +kernel
theorem dX11_writeMark_86 : decode cX11_writeMark 86 = .ok (.iload_n 1, 1) := by decide +kernel
theorem dX11_writeMark_87 : decode cX11_writeMark 87 = .ok (.iaload, 1) := by decide +kernel
theorem dX11_writeMark_88 : decode cX11_writeMark 88 = .ok (.invokevirtual 187, 3) := by decide +kernel
theorem dX11_writeMark_91 : decode cX11_writeMark 91 = .ok (.aload_n 0, 1) := by decide +kernel
theorem dX11_writeMark_92 : decode cX11_writeMark 92 = .ok (.getfield 7, 3) := by decide +kernel
theorem dX11_writeMark_95 : decode cX11_writeMark 95 = .ok (.iload_n 2, 1) := by decide +kernel
theorem dX11_writeMark_96 : decode cX11_writeMark 96 = .ok (.bipush 10, 2) := by decide +kernel
theorem dX11_writeMark_98 : decode cX11_writeMark 98 = .ok (.iadd, 1) := by decide +kernel
theorem dX11_writeMark_99 : decode cX11_writeMark 99 = .ok (.iaload, 1) := by decide +kernel
theorem dX11_writeMark_100 : decode cX11_writeMark 100 = .ok (.ifCond .lt 39, 3) := by decide +kernel
theorem dX11_writeMark_103 : decode cX11_writeMark 103 = .ok (.aload_n 0, 1) := by decide +kernel
theorem dX11_writeMark_104 : decode cX11_writeMark 104 = .ok (.bipush 46, 2) := by decide +kernel
theorem dX11_writeMark_106 : decode cX11_writeMark 106 = .ok (.invokevirtual 183, 3) := by decide +kernel
theorem dX11_writeMark_109 : decode cX11_writeMark 109 = .ok (.aload_n 0, 1) := by decide +kernel
theorem dX11_writeMark_110 : decode cX11_writeMark 110 = .ok (.bipush 97, 2) := by decide +kernel
theorem dX11_writeMark_112 : decode cX11_writeMark 112 = .ok (.aload_n 0, 1) := by decide +kernel
theorem dX11_writeMark_113 : decode cX11_writeMark 113 = .ok (.getfield 7, 3) := by decide +kernel
theorem dX11_writeMark_116 : decode cX11_writeMark 116 = .ok (.iload_n 2, 1) := by decide +kernel
theorem dX11_writeMark_117 : decode cX11_writeMark 117 = .ok (.bipush 10, 2) := by decide +kernel
theorem dX11_writeMark_119 : decode cX11_writeMark 119 = .ok (.iadd, 1) := by decide +kernel
theorem dX11_writeMark_120 : decode cX11_writeMark 120 = .ok (.iaload, 1) := by decide +kernel
theorem dX11_writeMark_121 : decode cX11_writeMark 121 = .ok (.iadd, 1) := by decide +kernel
theorem dX11_writeMark_122 : decode cX11_writeMark 122 = .ok (.invokevirtual 183, 3) := by decide +kernel
theorem dX11_writeMark_125 : decode cX11_writeMark 125 = .ok (.aload_n 0, 1) := by decide +kernel
theorem dX11_writeMark_126 : decode cX11_writeMark 126 = .ok (.iload_n 2, 1) := by decide +kernel
theorem dX11_writeMark_127 : decode cX11_writeMark 127 = .ok (.bipush 11, 2) := by decide +kernel
theorem dX11_writeMark_129 : decode cX11_writeMark 129 = .ok (.iadd, 1) := by decide +kernel
theorem dX11_writeMark_130 : decode cX11_writeMark 130 = .ok (.aload_n 0, 1) := by decide +kernel
theorem dX11_writeMark_131 : decode cX11_writeMark 131 = .ok (.getfield 19, 3) := by decide +kernel
theorem dX11_writeMark_134 : decode cX11_writeMark 134 = .ok (.iload_n 1, 1) := by decide +kernel
theorem dX11_writeMark_135 : decode cX11_writeMark 135 = .ok (.iaload, 1) := by decide +kernel
theorem dX11_writeMark_136 : decode cX11_writeMark 136 = .ok (.invokevirtual 187, 3) := by decide +kernel
theorem dX11_writeMark_139 : decode cX11_writeMark 139 = .ok (.aload_n 0, 1) := by decide +kernel
theorem dX11_writeMark_140 : decode cX11_writeMark 140 = .ok (.getfield 7, 3) := by decide +kernel
theorem dX11_writeMark_143 : decode cX11_writeMark 143 = .ok (.iload_n 2, 1) := by decide +kernel
theorem dX11_writeMark_144 : decode cX11_writeMark 144 = .ok (.bipush 15, 2) := by decide +kernel
theorem dX11_writeMark_146 : decode cX11_writeMark 146 = .ok (.iadd, 1) := by decide +kernel
theorem dX11_writeMark_147 : decode cX11_writeMark 147 = .ok (.iaload, 1) := by decide +kernel
theorem dX11_writeMark_148 : decode cX11_writeMark 148 = .ok (.ifCond .lt 98, 3) := by decide +kernel
theorem dX11_writeMark_151 : decode cX11_writeMark 151 = .ok (.aload_n 0, 1) := by decide +kernel
theorem dX11_writeMark_152 : decode cX11_writeMark 152 = .ok (.bipush 32, 2) := by decide +kernel
theorem dX11_writeMark_154 : decode cX11_writeMark 154 = .ok (.invokevirtual 183, 3) := by decide +kernel
theorem dX11_writeMark_157 : decode cX11_writeMark 157 = .ok (.aload_n 0, 1) := by decide +kernel
theorem dX11_writeMark_158 : decode cX11_writeMark 158 = .ok (.bipush 121, 2) := by decide +kernel
theorem dX11_writeMark_160 : decode cX11_writeMark 160 = .ok (.invokevirtual 183, 3) := by decide +kernel
theorem dX11_writeMark_163 : decode cX11_writeMark 163 = .ok (.aload_n 0, 1) := by decide +kernel
theorem dX11_writeMark_164 : decode cX11_writeMark 164 = .ok (.bipush 48, 2) := by decide +kernel
theorem dX11_writeMark_166 : decode cX11_writeMark 166 = .ok (.aload_n 0, 1) := by decide +kernel
theorem dX11_writeMark_167 : decode cX11_writeMark 167 = .ok (.getfield 7, 3) := by decide +kernel
theorem dX11_writeMark_170 : decode cX11_writeMark 170 = .ok (.iload_n 2, 1) := by decide +kernel
theorem dX11_writeMark_171 : decode cX11_writeMark 171 = .ok (.bipush 15, 2) := by decide +kernel
theorem dX11_writeMark_173 : decode cX11_writeMark 173 = .ok (.iadd, 1) := by decide +kernel
theorem dX11_writeMark_174 : decode cX11_writeMark 174 = .ok (.iaload, 1) := by decide +kernel
theorem dX11_writeMark_175 : decode cX11_writeMark 175 = .ok (.sipush 1000, 3) := by decide +kernel
theorem dX11_writeMark_178 : decode cX11_writeMark 178 = .ok (.idiv, 1) := by decide +kernel
theorem dX11_writeMark_179 : decode cX11_writeMark 179 = .ok (.iadd, 1) := by decide +kernel
theorem dX11_writeMark_180 : decode cX11_writeMark 180 = .ok (.invokevirtual 183, 3) := by decide +kernel
theorem dX11_writeMark_183 : decode cX11_writeMark 183 = .ok (.aload_n 0, 1) := by decide +kernel
theorem dX11_writeMark_184 : decode cX11_writeMark 184 = .ok (.bipush 48, 2) := by decide +kernel
theorem dX11_writeMark_186 : decode cX11_writeMark 186 = .ok (.aload_n 0, 1) := by decide +kernel
theorem dX11_writeMark_187 : decode cX11_writeMark 187 = .ok (.getfield 7, 3) := by decide +kernel
theorem dX11_writeMark_190 : decode cX11_writeMark 190 = .ok (.iload_n 2, 1) := by decide +kernel
theorem dX11_writeMark_191 : decode cX11_writeMark 191 = .ok (.bipush 15, 2) := by decide +kernel
theorem dX11_writeMark_193 : decode cX11_writeMark 193 = .ok (.iadd, 1) := by decide +kernel
theorem dX11_writeMark_194 : decode cX11_writeMark 194 = .ok (.iaload, 1) := by decide +kernel
theorem dX11_writeMark_195 : decode cX11_writeMark 195 = .ok (.bipush 100, 2) := by decide +kernel
theorem dX11_writeMark_197 : decode cX11_writeMark 197 = .ok (.idiv, 1) := by decide +kernel
theorem dX11_writeMark_198 : decode cX11_writeMark 198 = .ok (.bipush 10, 2) := by decide +kernel
theorem dX11_writeMark_200 : decode cX11_writeMark 200 = .ok (.irem, 1) := by decide +kernel
theorem dX11_writeMark_201 : decode cX11_writeMark 201 = .ok (.iadd, 1) := by decide +kernel
theorem dX11_writeMark_202 : decode cX11_writeMark 202 = .ok (.invokevirtual 183, 3) := by decide +kernel
theorem dX11_writeMark_205 : decode cX11_writeMark 205 = .ok (.aload_n 0, 1) := by decide +kernel
theorem dX11_writeMark_206 : decode cX11_writeMark 206 = .ok (.bipush 48, 2) := by decide +kernel
theorem dX11_writeMark_208 : decode cX11_writeMark 208 = .ok (.aload_n 0, 1) := by decide +kernel
theorem dX11_writeMark_209 : decode cX11_writeMark 209 = .ok (.getfield 7, 3) := by decide +kernel
theorem dX11_writeMark_212 : decode cX11_writeMark 212 = .ok (.iload_n 2, 1) := by decide +kernel
theorem dX11_writeMark_213 : decode cX11_writeMark 213 = .ok (.bipush 15, 2) := by decide +kernel
theorem dX11_writeMark_215 : decode cX11_writeMark 215 = .ok (.iadd, 1) := by decide +kernel
theorem dX11_writeMark_216 : decode cX11_writeMark 216 = .ok (.iaload, 1) := by decide +kernel
theorem dX11_writeMark_217 : decode cX11_writeMark 217 = .ok (.bipush 10, 2) := by decide +kernel
theorem dX11_writeMark_219 : decode cX11_writeMark 219 = .ok (.idiv, 1) := by decide +kernel
theorem dX11_writeMark_220 : decode cX11_writeMark 220 = .ok (.bipush 10, 2) := by decide +kernel
theorem dX11_writeMark_222 : decode cX11_writeMark 222 = .ok (.irem, 1) := by decide +kernel
theorem dX11_writeMark_223 : decode cX11_writeMark 223 = .ok (.iadd, 1) := by decide +kernel
theorem dX11_writeMark_224 : decode cX11_writeMark 224 = .ok (.invokevirtual 183, 3) := by decide +kernel
theorem dX11_writeMark_227 : decode cX11_writeMark 227 = .ok (.aload_n 0, 1) := by decide +kernel
theorem dX11_writeMark_228 : decode cX11_writeMark 228 = .ok (.bipush 48, 2) := by decide +kernel
theorem dX11_writeMark_230 : decode cX11_writeMark 230 = .ok (.aload_n 0, 1) := by decide +kernel
theorem dX11_writeMark_231 : decode cX11_writeMark 231 = .ok (.getfield 7, 3) := by decide +kernel
theorem dX11_writeMark_234 : decode cX11_writeMark 234 = .ok (.iload_n 2, 1) := by decide +kernel
theorem dX11_writeMark_235 : decode cX11_writeMark 235 = .ok (.bipush 15, 2) := by decide +kernel
theorem dX11_writeMark_237 : decode cX11_writeMark 237 = .ok (.iadd, 1) := by decide +kernel
theorem dX11_writeMark_238 : decode cX11_writeMark 238 = .ok (.iaload, 1) := by decide +kernel
theorem dX11_writeMark_239 : decode cX11_writeMark 239 = .ok (.bipush 10, 2) := by decide +kernel
theorem dX11_writeMark_241 : decode cX11_writeMark 241 = .ok (.irem, 1) := by decide +kernel
theorem dX11_writeMark_242 : decode cX11_writeMark 242 = .ok (.iadd, 1) := by decide +kernel
theorem dX11_writeMark_243 : decode cX11_writeMark 243 = .ok (.invokevirtual 183, 3) := by decide +kernel
theorem dX11_writeMark_246 : decode cX11_writeMark 246 = .ok (.return_, 1) := by decide +kernel
set_option maxHeartbeats 4000000 in
set_option maxRecDepth 100000 in
theorem kX11_writeMark (l : Launch) (z : Nat) (D : va_G) (cA : Nat → ClassId) (a0 : Nat) (x1 : Int32) (M : Mem) (K : Mem → Prop) (h : PX11_writeMark a0 x1 M K) : Met l yX11_writeMark (.code yX11_writeMark cX11_writeMark 3 none :: gtbl) ({ frames := 2, cells := 0, slots := 0, locals := 44 } : Room) (va_Pc [.ref a0, .int x1] (xB z D cA M)) (va_Qv K (xWd z D cA) (xA z)) 0 0 (xA z) := by
  refine x_met (by decide +kernel) (Nat.le_of_ble_eq_true rfl) (L0 := [(0, .ref a0), (1, .int x1)]) rfl ?_
  intro p e s m args below meth c E hr hlk hnm
  have E : xE RX11 cX11_writeMark 3 D cA p s m args c := E
  have hJ139 : ∀ (M : Mem) (j0 : Nat) (j2 : Int32), JX11_writeMark_139 K M j0 j2 → xG p l e ({ frames := 2, cells := 0, slots := 0, locals := 44 } : Room) s m args below meth c (MQ below (va_Qv K (xWd z D cA) (xA z)) args s 0 0 (xA z)) 3 z D cA M (0) (0) 139 [(0, .ref j0), (2, .int j2)] [] := by
    intro M j0 j2 h
    refine x_aload_n E dX11_writeMark_139 rfl 0 rfl ?_
    obtain ⟨hT, q20, hv, h⟩ := h
    refine x_get E flX11_7 dX11_writeMark_140 hT hv ?_
    clear hT hv
    refine x_iload_n E dX11_writeMark_143 rfl 1 rfl ?_
    refine x_bipush (v := (J 15)) E dX11_writeMark_144 (by decide) ?_
    refine x_iadd E dX11_writeMark_146 ?_
    obtain ⟨hT, hi, v21, hv, h⟩ := h
    refine x_iald E dX11_writeMark_147 hT hi hv ?_
    clear hT hi hv
    refine x_if_lt (tgt := 246) E dX11_writeMark_148 (by decide) (fun c22 => ?_) (fun c22 => ?_)
    · replace h := xbr_t h c22
      clear c22
      exact x_vret E hr hlk dX11_writeMark_246 h
    · replace h := xbr_f h c22
      clear c22
      refine x_aload_n E dX11_writeMark_151 rfl 0 rfl ?_
      refine x_bipush (v := (J 32)) E dX11_writeMark_152 (by decide) ?_
      refine x_callVv (T := TX11) (N := 32) (t := 12) (As := [.int (J 32)]) E mlX11_183 inX11_write seX11_write rfl ⟨by decide, by decide⟩ (tX11_write h) (kX11_write l z D cA j0 (J 32) M _ h) rfl ⟨rfl, rfl⟩ ⟨Nat.le_of_ble_eq_true rfl, Nat.le_of_ble_eq_true rfl⟩ ⟨(Nat.le_of_ble_eq_true rfl), (Nat.le_of_ble_eq_true rfl)⟩ (Nat.le_of_ble_eq_true rfl) rfl dX11_writeMark_154 (fun M24 h => ?_)
      refine x_aload_n E dX11_writeMark_157 rfl 0 rfl ?_
      refine x_bipush (v := (J 121)) E dX11_writeMark_158 (by decide) ?_
      refine x_callVv (T := TX11) (N := 32) (t := 12) (As := [.int (J 121)]) E mlX11_183 inX11_write seX11_write rfl ⟨by decide, by decide⟩ (tX11_write h) (kX11_write l z D cA j0 (J 121) M24 _ h) rfl ⟨rfl, rfl⟩ ⟨Nat.le_of_ble_eq_true rfl, Nat.le_of_ble_eq_true rfl⟩ ⟨(Nat.le_of_ble_eq_true rfl), (Nat.le_of_ble_eq_true rfl)⟩ (Nat.le_of_ble_eq_true rfl) rfl dX11_writeMark_160 (fun M26 h => ?_)
      refine x_aload_n E dX11_writeMark_163 rfl 0 rfl ?_
      refine x_bipush (v := (J 48)) E dX11_writeMark_164 (by decide) ?_
      refine x_aload_n E dX11_writeMark_166 rfl 0 rfl ?_
      obtain ⟨hT, q27, hv, h⟩ := h
      refine x_get E flX11_7 dX11_writeMark_167 hT hv ?_
      clear hT hv
      refine x_iload_n E dX11_writeMark_170 rfl 1 rfl ?_
      refine x_bipush (v := (J 15)) E dX11_writeMark_171 (by decide) ?_
      refine x_iadd E dX11_writeMark_173 ?_
      obtain ⟨hT, hi, v28, hv, h⟩ := h
      refine x_iald E dX11_writeMark_174 hT hi hv ?_
      clear hT hi hv
      refine x_sipush (v := (J 1000)) E dX11_writeMark_175 (by decide) ?_
      refine x_idiv E dX11_writeMark_178 (by decide) ?_
      refine x_iadd E dX11_writeMark_179 ?_
      refine x_callVv (T := TX11) (N := 32) (t := 12) (As := [.int ((J 48) + (v28 / (J 1000)))]) E mlX11_183 inX11_write seX11_write rfl ⟨by decide, by decide⟩ (tX11_write h) (kX11_write l z D cA j0 ((J 48) + (v28 / (J 1000))) M26 _ h) rfl ⟨rfl, rfl⟩ ⟨Nat.le_of_ble_eq_true rfl, Nat.le_of_ble_eq_true rfl⟩ ⟨(Nat.le_of_ble_eq_true rfl), (Nat.le_of_ble_eq_true rfl)⟩ (Nat.le_of_ble_eq_true rfl) rfl dX11_writeMark_180 (fun M30 h => ?_)
      refine x_aload_n E dX11_writeMark_183 rfl 0 rfl ?_
      refine x_bipush (v := (J 48)) E dX11_writeMark_184 (by decide) ?_
      refine x_aload_n E dX11_writeMark_186 rfl 0 rfl ?_
      obtain ⟨hT, q31, hv, h⟩ := h
      refine x_get E flX11_7 dX11_writeMark_187 hT hv ?_
      clear hT hv
      refine x_iload_n E dX11_writeMark_190 rfl 1 rfl ?_
      refine x_bipush (v := (J 15)) E dX11_writeMark_191 (by decide) ?_
      refine x_iadd E dX11_writeMark_193 ?_
      obtain ⟨hT, hi, v32, hv, h⟩ := h
      refine x_iald E dX11_writeMark_194 hT hi hv ?_
      clear hT hi hv
      refine x_bipush (v := (J 100)) E dX11_writeMark_195 (by decide) ?_
      refine x_idiv E dX11_writeMark_197 (by decide) ?_
      refine x_bipush (v := (J 10)) E dX11_writeMark_198 (by decide) ?_
      refine x_irem E dX11_writeMark_200 (by decide) ?_
      refine x_iadd E dX11_writeMark_201 ?_
      refine x_callVv (T := TX11) (N := 32) (t := 12) (As := [.int ((J 48) + ((v32 / (J 100)) - (v32 / (J 100)) / (J 10) * (J 10)))]) E mlX11_183 inX11_write seX11_write rfl ⟨by decide, by decide⟩ (tX11_write h) (kX11_write l z D cA j0 ((J 48) + ((v32 / (J 100)) - (v32 / (J 100)) / (J 10) * (J 10))) M30 _ h) rfl ⟨rfl, rfl⟩ ⟨Nat.le_of_ble_eq_true rfl, Nat.le_of_ble_eq_true rfl⟩ ⟨(Nat.le_of_ble_eq_true rfl), (Nat.le_of_ble_eq_true rfl)⟩ (Nat.le_of_ble_eq_true rfl) rfl dX11_writeMark_202 (fun M34 h => ?_)
      refine x_aload_n E dX11_writeMark_205 rfl 0 rfl ?_
      refine x_bipush (v := (J 48)) E dX11_writeMark_206 (by decide) ?_
      refine x_aload_n E dX11_writeMark_208 rfl 0 rfl ?_
      obtain ⟨hT, q35, hv, h⟩ := h
      refine x_get E flX11_7 dX11_writeMark_209 hT hv ?_
      clear hT hv
      refine x_iload_n E dX11_writeMark_212 rfl 1 rfl ?_
      refine x_bipush (v := (J 15)) E dX11_writeMark_213 (by decide) ?_
      refine x_iadd E dX11_writeMark_215 ?_
      obtain ⟨hT, hi, v36, hv, h⟩ := h
      refine x_iald E dX11_writeMark_216 hT hi hv ?_
      clear hT hi hv
      refine x_bipush (v := (J 10)) E dX11_writeMark_217 (by decide) ?_
      refine x_idiv E dX11_writeMark_219 (by decide) ?_
      refine x_bipush (v := (J 10)) E dX11_writeMark_220 (by decide) ?_
      refine x_irem E dX11_writeMark_222 (by decide) ?_
      refine x_iadd E dX11_writeMark_223 ?_
      refine x_callVv (T := TX11) (N := 32) (t := 12) (As := [.int ((J 48) + ((v36 / (J 10)) - (v36 / (J 10)) / (J 10) * (J 10)))]) E mlX11_183 inX11_write seX11_write rfl ⟨by decide, by decide⟩ (tX11_write h) (kX11_write l z D cA j0 ((J 48) + ((v36 / (J 10)) - (v36 / (J 10)) / (J 10) * (J 10))) M34 _ h) rfl ⟨rfl, rfl⟩ ⟨Nat.le_of_ble_eq_true rfl, Nat.le_of_ble_eq_true rfl⟩ ⟨(Nat.le_of_ble_eq_true rfl), (Nat.le_of_ble_eq_true rfl)⟩ (Nat.le_of_ble_eq_true rfl) rfl dX11_writeMark_224 (fun M38 h => ?_)
      refine x_aload_n E dX11_writeMark_227 rfl 0 rfl ?_
      refine x_bipush (v := (J 48)) E dX11_writeMark_228 (by decide) ?_
      refine x_aload_n E dX11_writeMark_230 rfl 0 rfl ?_
      obtain ⟨hT, q39, hv, h⟩ := h
      refine x_get E flX11_7 dX11_writeMark_231 hT hv ?_
      clear hT hv
      refine x_iload_n E dX11_writeMark_234 rfl 1 rfl ?_
      refine x_bipush (v := (J 15)) E dX11_writeMark_235 (by decide) ?_
      refine x_iadd E dX11_writeMark_237 ?_
      obtain ⟨hT, hi, v40, hv, h⟩ := h
      refine x_iald E dX11_writeMark_238 hT hi hv ?_
      clear hT hi hv
      refine x_bipush (v := (J 10)) E dX11_writeMark_239 (by decide) ?_
      refine x_irem E dX11_writeMark_241 (by decide) ?_
      refine x_iadd E dX11_writeMark_242 ?_
      refine x_callVv (T := TX11) (N := 32) (t := 12) (As := [.int ((J 48) + (v40 - v40 / (J 10) * (J 10)))]) E mlX11_183 inX11_write seX11_write rfl ⟨by decide, by decide⟩ (tX11_write h) (kX11_write l z D cA j0 ((J 48) + (v40 - v40 / (J 10) * (J 10))) M38 _ h) rfl ⟨rfl, rfl⟩ ⟨Nat.le_of_ble_eq_true rfl, Nat.le_of_ble_eq_true rfl⟩ ⟨(Nat.le_of_ble_eq_true rfl), (Nat.le_of_ble_eq_true rfl)⟩ (Nat.le_of_ble_eq_true rfl) rfl dX11_writeMark_243 (fun M42 h => ?_)
      exact x_vret E hr hlk dX11_writeMark_246 h
  have hJ91 : ∀ (M : Mem) (j0 : Nat) (j1 : Int32) (j2 : Int32), JX11_writeMark_91 K M j0 j1 j2 → xG p l e ({ frames := 2, cells := 0, slots := 0, locals := 44 } : Room) s m args below meth c (MQ below (va_Qv K (xWd z D cA) (xA z)) args s 0 0 (xA z)) 3 z D cA M (0) (0) 91 [(0, .ref j0), (1, .int j1), (2, .int j2)] [] := by
    intro M j0 j1 j2 h
    refine x_aload_n E dX11_writeMark_91 rfl 0 rfl ?_
    obtain ⟨hT, q17, hv, h⟩ := h
    refine x_get E flX11_7 dX11_writeMark_92 hT hv ?_
    clear hT hv
    refine x_iload_n E dX11_writeMark_95 rfl 2 rfl ?_
    refine x_bipush (v := (J 10)) E dX11_writeMark_96 (by decide) ?_
    refine x_iadd E dX11_writeMark_98 ?_
    obtain ⟨hT, hi, v18, hv, h⟩ := h
    refine x_iald E dX11_writeMark_99 hT hi hv ?_
    clear hT hi hv
    refine x_if_lt (tgt := 139) E dX11_writeMark_100 (by decide) (fun c19 => ?_) (fun c19 => ?_)
    · replace h := xbr_t h c19
      clear c19
      refine x_sub (L' := [(0, .ref j0), (2, .int j2)]) [0, 2] rfl ?_
      exact hJ139 M j0 j2 h
    · replace h := xbr_f h c19
      clear c19
      refine x_aload_n E dX11_writeMark_103 rfl 0 rfl ?_
      refine x_bipush (v := (J 46)) E dX11_writeMark_104 (by decide) ?_
      refine x_callVv (T := TX11) (N := 32) (t := 12) (As := [.int (J 46)]) E mlX11_183 inX11_write seX11_write rfl ⟨by decide, by decide⟩ (tX11_write h) (kX11_write l z D cA j0 (J 46) M _ h) rfl ⟨rfl, rfl⟩ ⟨Nat.le_of_ble_eq_true rfl, Nat.le_of_ble_eq_true rfl⟩ ⟨(Nat.le_of_ble_eq_true rfl), (Nat.le_of_ble_eq_true rfl)⟩ (Nat.le_of_ble_eq_true rfl) rfl dX11_writeMark_106 (fun M44 h => ?_)
      refine x_aload_n E dX11_writeMark_109 rfl 0 rfl ?_
      refine x_bipush (v := (J 97)) E dX11_writeMark_110 (by decide) ?_
      refine x_aload_n E dX11_writeMark_112 rfl 0 rfl ?_
      obtain ⟨hT, q45, hv, h⟩ := h
      refine x_get E flX11_7 dX11_writeMark_113 hT hv ?_
      clear hT hv
      refine x_iload_n E dX11_writeMark_116 rfl 2 rfl ?_
      refine x_bipush (v := (J 10)) E dX11_writeMark_117 (by decide) ?_
      refine x_iadd E dX11_writeMark_119 ?_
      obtain ⟨hT, hi, v46, hv, h⟩ := h
      refine x_iald E dX11_writeMark_120 hT hi hv ?_
      clear hT hi hv
      refine x_iadd E dX11_writeMark_121 ?_
      refine x_callVv (T := TX11) (N := 32) (t := 12) (As := [.int ((J 97) + v46)]) E mlX11_183 inX11_write seX11_write rfl ⟨by decide, by decide⟩ (tX11_write h) (kX11_write l z D cA j0 ((J 97) + v46) M44 _ h) rfl ⟨rfl, rfl⟩ ⟨Nat.le_of_ble_eq_true rfl, Nat.le_of_ble_eq_true rfl⟩ ⟨(Nat.le_of_ble_eq_true rfl), (Nat.le_of_ble_eq_true rfl)⟩ (Nat.le_of_ble_eq_true rfl) rfl dX11_writeMark_122 (fun M48 h => ?_)
      refine x_aload_n E dX11_writeMark_125 rfl 0 rfl ?_
      refine x_iload_n E dX11_writeMark_126 rfl 2 rfl ?_
      refine x_bipush (v := (J 11)) E dX11_writeMark_127 (by decide) ?_
      refine x_iadd E dX11_writeMark_129 ?_
      refine x_aload_n E dX11_writeMark_130 rfl 0 rfl ?_
      obtain ⟨hT, q49, hv, h⟩ := h
      refine x_get E flX11_19 dX11_writeMark_131 hT hv ?_
      clear hT hv
      refine x_iload_n E dX11_writeMark_134 rfl 1 rfl ?_
      obtain ⟨hT, hi, v50, hv, h⟩ := h
      refine x_iald E dX11_writeMark_135 hT hi hv ?_
      clear hT hi hv
      refine x_callVv (T := TX11) (N := 32) (t := 12) (As := [.int (j2 + (J 11)), .int v50]) E mlX11_187 inX11_writeFigures seX11_writeFigures rfl ⟨by decide, by decide⟩ (tX11_writeFigures h) (kX11_writeFigures l z D cA j0 (j2 + (J 11)) v50 M48 _ h) rfl ⟨rfl, rfl⟩ ⟨Nat.le_of_ble_eq_true rfl, Nat.le_of_ble_eq_true rfl⟩ ⟨(Nat.le_of_ble_eq_true rfl), (Nat.le_of_ble_eq_true rfl)⟩ (Nat.le_of_ble_eq_true rfl) rfl dX11_writeMark_136 (fun M52 h => ?_)
      refine x_sub (L' := [(0, .ref j0), (2, .int j2)]) [0, 2] rfl ?_
      exact hJ139 M52 j0 j2 h
  have hJ49 : ∀ (M : Mem) (j0 : Nat) (j1 : Int32) (j2 : Int32), JX11_writeMark_49 K M j0 j1 j2 → xG p l e ({ frames := 2, cells := 0, slots := 0, locals := 44 } : Room) s m args below meth c (MQ below (va_Qv K (xWd z D cA) (xA z)) args s 0 0 (xA z)) 3 z D cA M (0) (0) 49 [(0, .ref j0), (1, .int j1), (2, .int j2)] [] := by
    intro M j0 j1 j2 h
    refine x_aload_n E dX11_writeMark_49 rfl 0 rfl ?_
    refine x_iload_n E dX11_writeMark_50 rfl 2 rfl ?_
    refine x_iconst (v := (J 2)) E dX11_writeMark_51 (by decide) ?_
    refine x_iadd E dX11_writeMark_52 ?_
    refine x_aload_n E dX11_writeMark_53 rfl 0 rfl ?_
    obtain ⟨hT, q10, hv, h⟩ := h
    refine x_get E flX11_13 dX11_writeMark_54 hT hv ?_
    clear hT hv
    refine x_iload_n E dX11_writeMark_57 rfl 1 rfl ?_
    obtain ⟨hT, hi, v11, hv, h⟩ := h
    refine x_iald E dX11_writeMark_58 hT hi hv ?_
    clear hT hi hv
    refine x_callVv (T := TX11) (N := 32) (t := 12) (As := [.int (j2 + (J 2)), .int v11]) E mlX11_187 inX11_writeFigures seX11_writeFigures rfl ⟨by decide, by decide⟩ (tX11_writeFigures h) (kX11_writeFigures l z D cA j0 (j2 + (J 2)) v11 M _ h) rfl ⟨rfl, rfl⟩ ⟨Nat.le_of_ble_eq_true rfl, Nat.le_of_ble_eq_true rfl⟩ ⟨(Nat.le_of_ble_eq_true rfl), (Nat.le_of_ble_eq_true rfl)⟩ (Nat.le_of_ble_eq_true rfl) rfl dX11_writeMark_59 (fun M13 h => ?_)
    refine x_aload_n E dX11_writeMark_62 rfl 0 rfl ?_
    obtain ⟨hT, q14, hv, h⟩ := h
    refine x_get E flX11_16 dX11_writeMark_63 hT hv ?_
    clear hT hv
    refine x_iload_n E dX11_writeMark_66 rfl 1 rfl ?_
    obtain ⟨hT, hi, v15, hv, h⟩ := h
    refine x_iald E dX11_writeMark_67 hT hi hv ?_
    clear hT hi hv
    refine x_if_le (tgt := 91) E dX11_writeMark_68 (by decide) (fun c16 => ?_) (fun c16 => ?_)
    · replace h := xbr_t h c16
      clear c16
      exact hJ91 M13 j0 j1 j2 h
    · replace h := xbr_f h c16
      clear c16
      refine x_aload_n E dX11_writeMark_71 rfl 0 rfl ?_
      refine x_bipush (v := (J 46)) E dX11_writeMark_72 (by decide) ?_
      refine x_callVv (T := TX11) (N := 32) (t := 12) (As := [.int (J 46)]) E mlX11_183 inX11_write seX11_write rfl ⟨by decide, by decide⟩ (tX11_write h) (kX11_write l z D cA j0 (J 46) M13 _ h) rfl ⟨rfl, rfl⟩ ⟨Nat.le_of_ble_eq_true rfl, Nat.le_of_ble_eq_true rfl⟩ ⟨(Nat.le_of_ble_eq_true rfl), (Nat.le_of_ble_eq_true rfl)⟩ (Nat.le_of_ble_eq_true rfl) rfl dX11_writeMark_74 (fun M54 h => ?_)
      refine x_aload_n E dX11_writeMark_77 rfl 0 rfl ?_
      refine x_iload_n E dX11_writeMark_78 rfl 2 rfl ?_
      refine x_bipush (v := (J 6)) E dX11_writeMark_79 (by decide) ?_
      refine x_iadd E dX11_writeMark_81 ?_
      refine x_aload_n E dX11_writeMark_82 rfl 0 rfl ?_
      obtain ⟨hT, q55, hv, h⟩ := h
      refine x_get E flX11_16 dX11_writeMark_83 hT hv ?_
      clear hT hv
      refine x_iload_n E dX11_writeMark_86 rfl 1 rfl ?_
      obtain ⟨hT, hi, v56, hv, h⟩ := h
      refine x_iald E dX11_writeMark_87 hT hi hv ?_
      clear hT hi hv
      refine x_callVv (T := TX11) (N := 32) (t := 12) (As := [.int (j2 + (J 6)), .int v56]) E mlX11_187 inX11_writeFigures seX11_writeFigures rfl ⟨by decide, by decide⟩ (tX11_writeFigures h) (kX11_writeFigures l z D cA j0 (j2 + (J 6)) v56 M54 _ h) rfl ⟨rfl, rfl⟩ ⟨Nat.le_of_ble_eq_true rfl, Nat.le_of_ble_eq_true rfl⟩ ⟨(Nat.le_of_ble_eq_true rfl), (Nat.le_of_ble_eq_true rfl)⟩ (Nat.le_of_ble_eq_true rfl) rfl dX11_writeMark_88 (fun M58 h => ?_)
      exact hJ91 M58 j0 j1 j2 h
  replace h := h.2
  refine x_bipush (v := (J 16)) E dX11_writeMark_0 (by decide) ?_
  refine x_iload_n E dX11_writeMark_2 rfl 1 rfl ?_
  refine x_imul E dX11_writeMark_3 ?_
  obtain ⟨y1, ey1, h⟩ := h
  refine x_top (v := .int y1) (congrArg _ ey1) ?_
  clear ey1
  refine x_istore_n (L' := [(2, .int y1), (0, .ref a0), (1, .int x1)]) E dX11_writeMark_4 rfl (by decide) rfl ?_
  refine x_aload_n E dX11_writeMark_5 rfl 1 rfl ?_
  refine x_iconst (v := (J 0)) E dX11_writeMark_6 (by decide) ?_
  obtain ⟨hT, h⟩ := h
  refine x_put E flX11_180 ⟨tyX11_ok, nmX11, rfl⟩ (by decide +kernel) rfl rfl dX11_writeMark_7 hT (fun M2 eM2 => ?_)
  replace h := h M2 eM2
  clear hT eM2
  refine x_aload_n E dX11_writeMark_10 rfl 1 rfl ?_
  refine x_bipush (v := (J 97)) E dX11_writeMark_11 (by decide) ?_
  refine x_aload_n E dX11_writeMark_13 rfl 1 rfl ?_
  obtain ⟨hT, q3, hv, h⟩ := h
  refine x_get E flX11_7 dX11_writeMark_14 hT hv ?_
  clear hT hv
  refine x_iload_n E dX11_writeMark_17 rfl 0 rfl ?_
  obtain ⟨hT, hi, v4, hv, h⟩ := h
  refine x_iald E dX11_writeMark_18 hT hi hv ?_
  clear hT hi hv
  refine x_iadd E dX11_writeMark_19 ?_
  refine x_callVv (T := TX11) (N := 32) (t := 12) (As := [.int ((J 97) + v4)]) E mlX11_183 inX11_write seX11_write rfl ⟨by decide, by decide⟩ (tX11_write h) (kX11_write l z D cA a0 ((J 97) + v4) M2 _ h) rfl ⟨rfl, rfl⟩ ⟨Nat.le_of_ble_eq_true rfl, Nat.le_of_ble_eq_true rfl⟩ ⟨(Nat.le_of_ble_eq_true rfl), (Nat.le_of_ble_eq_true rfl)⟩ (Nat.le_of_ble_eq_true rfl) rfl dX11_writeMark_20 (fun M6 h => ?_)
  refine x_aload_n E dX11_writeMark_23 rfl 1 rfl ?_
  obtain ⟨hT, q7, hv, h⟩ := h
  refine x_get E flX11_7 dX11_writeMark_24 hT hv ?_
  clear hT hv
  refine x_iload_n E dX11_writeMark_27 rfl 0 rfl ?_
  refine x_iconst (v := (J 1)) E dX11_writeMark_28 (by decide) ?_
  refine x_iadd E dX11_writeMark_29 ?_
  obtain ⟨hT, hi, v8, hv, h⟩ := h
  refine x_iald E dX11_writeMark_30 hT hi hv ?_
  clear hT hi hv
  refine x_if_lt (tgt := 49) E dX11_writeMark_31 (by decide) (fun c9 => ?_) (fun c9 => ?_)
  · replace h := xbr_t h c9
    clear c9
    refine x_sub (L' := [(0, .ref a0), (1, .int x1), (2, .int y1)]) [1, 2, 0] rfl ?_
    exact hJ49 M6 a0 x1 y1 h
  · replace h := xbr_f h c9
    clear c9
    refine x_aload_n E dX11_writeMark_34 rfl 1 rfl ?_
    refine x_bipush (v := (J 97)) E dX11_writeMark_35 (by decide) ?_
    refine x_aload_n E dX11_writeMark_37 rfl 1 rfl ?_
    obtain ⟨hT, q59, hv, h⟩ := h
    refine x_get E flX11_7 dX11_writeMark_38 hT hv ?_
    clear hT hv
    refine x_iload_n E dX11_writeMark_41 rfl 0 rfl ?_
    refine x_iconst (v := (J 1)) E dX11_writeMark_42 (by decide) ?_
    refine x_iadd E dX11_writeMark_43 ?_
    obtain ⟨hT, hi, v60, hv, h⟩ := h
    refine x_iald E dX11_writeMark_44 hT hi hv ?_
    clear hT hi hv
    refine x_iadd E dX11_writeMark_45 ?_
    refine x_callVv (T := TX11) (N := 32) (t := 12) (As := [.int ((J 97) + v60)]) E mlX11_183 inX11_write seX11_write rfl ⟨by decide, by decide⟩ (tX11_write h) (kX11_write l z D cA a0 ((J 97) + v60) M6 _ h) rfl ⟨rfl, rfl⟩ ⟨Nat.le_of_ble_eq_true rfl, Nat.le_of_ble_eq_true rfl⟩ ⟨(Nat.le_of_ble_eq_true rfl), (Nat.le_of_ble_eq_true rfl)⟩ (Nat.le_of_ble_eq_true rfl) rfl dX11_writeMark_46 (fun M62 h => ?_)
    refine x_sub (L' := [(0, .ref a0), (1, .int x1), (2, .int y1)]) [1, 2, 0] rfl ?_
    exact hJ49 M62 a0 x1 y1 h
theorem dX11_mark_0 : decode cX11_mark 0 = .ok (.aload_n 0, 1) := by decide +kernel
theorem dX11_mark_1 : decode cX11_mark 1 = .ok (.iload_n 1, 1) := by decide +kernel
theorem dX11_mark_2 : decode cX11_mark 2 = .ok (.invokevirtual 163, 3) := by decide +kernel
theorem dX11_mark_5 : decode cX11_mark 5 = .ok (.ifCond .ne 7, 3) := by decide +kernel
theorem dX11_mark_8 : decode cX11_mark 8 = .ok (.sipush (-1001), 3) := by decide +kernel
theorem dX11_mark_11 : decode cX11_mark 11 = .ok (.ireturn, 1) := by decide +kernel
theorem dX11_mark_12 : decode cX11_mark 12 = .ok (.aload_n 0, 1) := by decide +kernel
theorem dX11_mark_13 : decode cX11_mark 13 = .ok (.iload_n 1, 1) := by decide +kernel
theorem dX11_mark_14 : decode cX11_mark 14 = .ok (.invokevirtual 191, 3) := by decide +kernel
theorem dX11_mark_17 : decode cX11_mark 17 = .ok (.iload_n 2, 1) := by decide +kernel
theorem dX11_mark_18 : decode cX11_mark 18 = .ok (.iconst (-1), 1) := by decide +kernel
theorem dX11_mark_19 : decode cX11_mark 19 = .ok (.if_icmp .ne 10, 3) := by decide +kernel
theorem dX11_mark_22 : decode cX11_mark 22 = .ok (.aload_n 0, 1) := by decide +kernel
theorem dX11_mark_23 : decode cX11_mark 23 = .ok (.getfield 180, 3) := by decide +kernel
theorem dX11_mark_26 : decode cX11_mark 26 = .ok (.goto 29, 3) := by decide +kernel
theorem dX11_mark_29 : decode cX11_mark 29 = .ok (.iload_n 2, 1) := by decide +kernel
theorem dX11_mark_30 : decode cX11_mark 30 = .ok (.i2l, 1) := by decide +kernel
theorem dX11_mark_31 : decode cX11_mark 31 = .ok (.lconst 0, 1) := by decide +kernel
theorem dX11_mark_32 : decode cX11_mark 32 = .ok (.aload_n 0, 1) := by decide +kernel
theorem dX11_mark_33 : decode cX11_mark 33 = .ok (.getfield 180, 3) := by decide +kernel
theorem dX11_mark_36 : decode cX11_mark 36 = .ok (.iconst 1, 1) := by decide +kernel
theorem dX11_mark_37 : decode cX11_mark 37 = .ok (.isub, 1) := by decide +kernel
theorem dX11_mark_38 : decode cX11_mark 38 = .ok (.i2l, 1) := by decide +kernel
theorem dX11_mark_39 : decode cX11_mark 39 = .ok (.invokestatic 78, 3) := by decide +kernel
theorem dX11_mark_42 : decode cX11_mark 42 = .ok (.ifCond .eq 12, 3) := by decide +kernel
theorem dX11_mark_45 : decode cX11_mark 45 = .ok (.aload_n 0, 1) := by decide +kernel
theorem dX11_mark_46 : decode cX11_mark 46 = .ok (.getfield 44, 3) := by decide +kernel
theorem dX11_mark_49 : decode cX11_mark 49 = .ok (.iload_n 2, 1) := by decide +kernel
theorem dX11_mark_50 : decode cX11_mark 50 = .ok (.iaload, 1) := by decide +kernel
theorem dX11_mark_51 : decode cX11_mark 51 = .ok (.goto 4, 3) := by decide +kernel
theorem dX11_mark_54 : decode cX11_mark 54 = .ok (.iconst (-1), 1) := by decide +kernel
theorem dX11_mark_55 : decode cX11_mark 55 = .ok (.ireturn, 1) := by decide +kernel
set_option maxHeartbeats 4000000 in
set_option maxRecDepth 100000 in
theorem kX11_mark (l : Launch) (z : Nat) (D : va_G) (cA : Nat → ClassId) (a0 : Nat) (x1 : Int32) (x2 : Int32) (M : Mem) (K : Int32 → Mem → Prop) (h : PX11_mark a0 x1 x2 M K) : Met l yX11_mark (.code yX11_mark cX11_mark 3 (some .int) :: gtbl) ({ frames := 3, cells := 0, slots := 0, locals := 66 } : Room) (va_Pc [.ref a0, .int x1, .int x2] (xB z D cA M)) (va_Qi K (xWd z D cA) (xA z)) 0 0 (xA z) := by
  refine x_met (by decide +kernel) (Nat.le_of_ble_eq_true rfl) (L0 := [(0, .ref a0), (1, .int x1), (2, .int x2)]) rfl ?_
  intro p e s m args below meth c E hr hlk hnm
  have E : xE RX11 cX11_mark 3 D cA p s m args c := E
  replace h := h.2
  refine x_aload_n E dX11_mark_0 rfl 0 rfl ?_
  refine x_iload_n E dX11_mark_1 rfl 1 rfl ?_
  refine x_callVi (T := TX11) (N := 32) (t := 12) (As := [.int x1]) E mlX11_163 inX11_isBook seX11_isBook rfl ⟨by decide, by decide⟩ (tX11_isBook h) (kX11_isBook l z D cA a0 x1 M _ h) rfl ⟨rfl, rfl⟩ ⟨Nat.le_of_ble_eq_true rfl, Nat.le_of_ble_eq_true rfl⟩ ⟨(Nat.le_of_ble_eq_true rfl), (Nat.le_of_ble_eq_true rfl)⟩ (Nat.le_of_ble_eq_true rfl) rfl dX11_mark_2 (x_pure (fun r1 h => ?_))
  refine x_if_ne (tgt := 12) E dX11_mark_5 (by decide) (fun c3 => ?_) (fun c3 => ?_)
  · replace h := xbr_f h c3
    clear c3
    refine x_aload_n E dX11_mark_12 rfl 0 rfl ?_
    refine x_iload_n E dX11_mark_13 rfl 1 rfl ?_
    refine x_callVv (T := TX11) (N := 32) (t := 12) (As := [.int x1]) E mlX11_191 inX11_writeMark seX11_writeMark rfl ⟨by decide, by decide⟩ (tX11_writeMark h) (kX11_writeMark l z D cA a0 x1 M _ h) rfl ⟨rfl, rfl⟩ ⟨Nat.le_of_ble_eq_true rfl, Nat.le_of_ble_eq_true rfl⟩ ⟨(Nat.le_of_ble_eq_true rfl), (Nat.le_of_ble_eq_true rfl)⟩ (Nat.le_of_ble_eq_true rfl) rfl dX11_mark_14 (fun M5 h => ?_)
    refine x_iload_n E dX11_mark_17 rfl 2 rfl ?_
    refine x_iconst (v := (J (-1))) E dX11_mark_18 (by decide) ?_
    refine x_icmp_ne (tgt := 29) E dX11_mark_19 (by decide) (fun c6 => ?_) (fun c6 => ?_)
    · replace h := xbr_f h c6
      clear c6
      refine x_iload_n E dX11_mark_29 rfl 2 rfl ?_
      refine x_i2l E dX11_mark_30 ?_
      refine x_lconst (v := (LJ 0)) E dX11_mark_31 (by decide) ?_
      refine x_aload_n E dX11_mark_32 rfl 0 rfl ?_
      obtain ⟨hT, v7, hv, h⟩ := h
      refine x_get E flX11_180 dX11_mark_33 hT hv ?_
      clear hT hv
      refine x_iconst (v := (J 1)) E dX11_mark_36 (by decide) ?_
      refine x_isub E dX11_mark_37 ?_
      refine x_i2l E dX11_mark_38 ?_
      refine x_callSi (As := [.long x2.toInt64, .long (LJ 0), .long (v7 - (J 1)).toInt64]) E mlX11_78 rfl stX11_in (kX11_in l z D cA x2.toInt64 (LJ 0) (v7 - (J 1)).toInt64 M5 _ h) rfl ⟨rfl, rfl⟩ ⟨Nat.le_of_ble_eq_true rfl, Nat.le_of_ble_eq_true rfl⟩ ⟨(Nat.le_of_ble_eq_true rfl), (Nat.le_of_ble_eq_true rfl)⟩ (Nat.le_of_ble_eq_true rfl) rfl dX11_mark_39 (x_pure (fun r8 h => ?_))
      refine x_if_eq (tgt := 54) E dX11_mark_42 (by decide) (fun c10 => ?_) (fun c10 => ?_)
      · replace h := xbr_t h c10
        clear c10
        refine x_iconst (v := (J (-1))) E dX11_mark_54 (by decide) ?_
        exact x_iret E hr hlk dX11_mark_55 h
      · replace h := xbr_f h c10
        clear c10
        refine x_aload_n E dX11_mark_45 rfl 0 rfl ?_
        obtain ⟨hT, q11, hv, h⟩ := h
        refine x_get E flX11_44 dX11_mark_46 hT hv ?_
        clear hT hv
        refine x_iload_n E dX11_mark_49 rfl 2 rfl ?_
        obtain ⟨hT, hi, v12, hv, h⟩ := h
        refine x_iald E dX11_mark_50 hT hi hv ?_
        clear hT hi hv
        refine x_goto (tgt := 55) E dX11_mark_51 (by decide) ?_
        exact x_iret E hr hlk dX11_mark_55 h
    · replace h := xbr_t h c6
      clear c6
      refine x_aload_n E dX11_mark_22 rfl 0 rfl ?_
      obtain ⟨hT, v13, hv, h⟩ := h
      refine x_get E flX11_180 dX11_mark_23 hT hv ?_
      clear hT hv
      refine x_goto (tgt := 55) E dX11_mark_26 (by decide) ?_
      exact x_iret E hr hlk dX11_mark_55 h
  · replace h := xbr_t h c3
    clear c3
    refine x_sipush (v := (J (-1001))) E dX11_mark_8 (by decide) ?_
    exact x_iret E hr hlk dX11_mark_11 h
theorem dX11_byFigures_0 : decode cX11_byFigures 0 = .ok (.iconst 0, 1) := by decide +kernel
theorem dX11_byFigures_1 : decode cX11_byFigures 1 = .ok (.istore 5, 2) := by decide +kernel
theorem dX11_byFigures_3 : decode cX11_byFigures 3 = .ok (.iload 5, 2) := by decide +kernel
theorem dX11_byFigures_5 : decode cX11_byFigures 5 = .ok (.iload_n 2, 1) := by decide +kernel
theorem dX11_byFigures_6 : decode cX11_byFigures 6 = .ok (.if_icmp .ge 57, 3) := by decide +kernel
theorem dX11_byFigures_9 : decode cX11_byFigures 9 = .ok (.iload 5, 2) := by decide +kernel
theorem dX11_byFigures_11 : decode cX11_byFigures 11 = .ok (.iload 4, 2) := by decide +kernel
theorem dX11_byFigures_13 : decode cX11_byFigures 13 = .ok (.if_icmp .ge 50, 3) := by decide +kernel
theorem dX11_byFigures_16 : decode cX11_byFigures 16 = .ok (.aload_n 0, 1) := by decide +kernel
theorem dX11_byFigures_17 : decode cX11_byFigures 17 = .ok (.getfield 7, 3) := by decide +kernel
theorem dX11_byFigures_20 : decode cX11_byFigures 20 = .ok (.iload_n 1, 1) := by decide +kernel
theorem dX11_byFigures_21 : decode cX11_byFigures 21 = .ok (.iload 5, 2) := by decide +kernel
theorem dX11_byFigures_23 : decode cX11_byFigures 23 = .ok (.iadd, 1) := by decide +kernel
theorem dX11_byFigures_24 : decode cX11_byFigures 24 = .ok (.iaload, 1) := by decide +kernel
theorem dX11_byFigures_25 : decode cX11_byFigures 25 = .ok (.aload_n 0, 1) := by decide +kernel
theorem dX11_byFigures_26 : decode cX11_byFigures 26 = .ok (.getfield 7, 3) := by decide +kernel
theorem dX11_byFigures_29 : decode cX11_byFigures 29 = .ok (.iload_n 3, 1) := by decide +kernel
theorem dX11_byFigures_30 : decode cX11_byFigures 30 = .ok (.iload 5, 2) := by decide +kernel
theorem dX11_byFigures_32 : decode cX11_byFigures 32 = .ok (.iadd, 1) := by decide +kernel
theorem dX11_byFigures_33 : decode cX11_byFigures 33 = .ok (.iaload, 1) := by decide +kernel
theorem dX11_byFigures_34 : decode cX11_byFigures 34 = .ok (.if_icmp .eq 23, 3) := by decide +kernel
theorem dX11_byFigures_37 : decode cX11_byFigures 37 = .ok (.aload_n 0, 1) := by decide +kernel
theorem dX11_byFigures_38 : decode cX11_byFigures 38 = .ok (.getfield 7, 3) := by decide +kernel
theorem dX11_byFigures_41 : decode cX11_byFigures 41 = .ok (.iload_n 1, 1) := by decide +kernel
theorem dX11_byFigures_42 : decode cX11_byFigures 42 = .ok (.iload 5, 2) := by decide +kernel
theorem dX11_byFigures_44 : decode cX11_byFigures 44 = .ok (.iadd, 1) := by decide +kernel
theorem dX11_byFigures_45 : decode cX11_byFigures 45 = .ok (.iaload, 1) := by decide +kernel
theorem dX11_byFigures_46 : decode cX11_byFigures 46 = .ok (.aload_n 0, 1) := by decide +kernel
theorem dX11_byFigures_47 : decode cX11_byFigures 47 = .ok (.getfield 7, 3) := by decide +kernel
theorem dX11_byFigures_50 : decode cX11_byFigures 50 = .ok (.iload_n 3, 1) := by decide +kernel
theorem dX11_byFigures_51 : decode cX11_byFigures 51 = .ok (.iload 5, 2) := by decide +kernel
theorem dX11_byFigures_53 : decode cX11_byFigures 53 = .ok (.iadd, 1) := by decide +kernel
theorem dX11_byFigures_54 : decode cX11_byFigures 54 = .ok (.iaload, 1) := by decide +kernel
theorem dX11_byFigures_55 : decode cX11_byFigures 55 = .ok (.isub, 1) := by decide +kernel
theorem dX11_byFigures_56 : decode cX11_byFigures 56 = .ok (.ireturn, 1) := by decide +kernel
theorem dX11_byFigures_57 : decode cX11_byFigures 57 = .ok (.iinc 5 1, 3) := by decide +kernel
theorem dX11_byFigures_60 : decode cX11_byFigures 60 = .ok (.goto (-57), 3) := by decide +kernel
theorem dX11_byFigures_63 : decode cX11_byFigures 63 = .ok (.iload_n 2, 1) := by decide +kernel
theorem dX11_byFigures_64 : decode cX11_byFigures 64 = .ok (.iload 4, 2) := by decide +kernel
theorem dX11_byFigures_66 : decode cX11_byFigures 66 = .ok (.isub, 1) := by decide +kernel
theorem dX11_byFigures_67 : decode cX11_byFigures 67 = .ok (.ireturn, 1) := by decide +kernel
set_option maxHeartbeats 4000000 in
set_option maxRecDepth 100000 in
theorem kX11_byFigures (l : Launch) (z : Nat) (D : va_G) (cA : Nat → ClassId) (a0 : Nat) (x1 : Int32) (x2 : Int32) (x3 : Int32) (x4 : Int32) (M : Mem) (K : Int32 → Prop) (h : PX11_byFigures a0 x1 x2 x3 x4 M K) : Met l yX11_byFigures (.code yX11_byFigures cX11_byFigures 6 (some .int) :: gtbl) ({ frames := 0, cells := 0, slots := 0, locals := 0 } : Room) (va_Pc [.ref a0, .int x1, .int x2, .int x3, .int x4] (xB z D cA M)) (va_Qi (fun r M1 => M1 = M ∧ K r) (xWd z D cA) (xA z)) 0 0 (xA z) := by
  refine x_met (by decide +kernel) (Nat.le_of_ble_eq_true rfl) (L0 := [(0, .ref a0), (1, .int x1), (2, .int x2), (3, .int x3), (4, .int x4)]) rfl ?_
  intro p e s m args below meth c E hr hlk hnm
  have E : xE RX11 cX11_byFigures 6 D cA p s m args c := E
  replace h := h.2
  refine x_iconst (v := (J 0)) E dX11_byFigures_0 (by decide) ?_
  refine x_istore (L' := [(5, .int (J 0)), (0, .ref a0), (1, .int x1), (2, .int x2), (3, .int x3), (4, .int x4)]) E dX11_byFigures_1 (by decide) rfl ?_
  refine x_sub (L' := [(0, .ref a0), (1, .int x1), (2, .int x2), (3, .int x3), (4, .int x4), (5, .int (J 0))]) [1, 2, 3, 4, 5, 0] rfl ?_
  refine lp_sound (T := fun sv => xG p l e ({ frames := 0, cells := 0, slots := 0, locals := 0 } : Room) s m args below meth c (MQ below (va_Qi (fun r M1 => M1 = M ∧ K r) (xWd z D cA) (xA z)) args s 0 0 (xA z)) 6 z D cA M (0) (0) 3 [(0, .ref a0), (1, .int x1), (2, .int x2), (3, .int x3), (4, .int x4), (5, .int sv)] []) ?_ (J 0) h
  clear h
  intro kc3 hk3 sv h
  obtain ⟨x5, esv⟩ : ∃ y, y = sv := ⟨_, rfl⟩
  subst esv
  replace h : CX11_byFigures_3 K M a0 x1 x2 x3 x4 kc3 x5 := h
  try dsimp only
  refine x_iload E dX11_byFigures_3 5 rfl ?_
  refine x_iload_n E dX11_byFigures_5 rfl 2 rfl ?_
  refine x_icmp_ge (tgt := 63) E dX11_byFigures_6 (by decide) (fun c1 => ?_) (fun c1 => ?_)
  · replace h := xbr_t h c1
    clear c1
    refine x_iload_n E dX11_byFigures_63 rfl 2 rfl ?_
    refine x_iload E dX11_byFigures_64 4 rfl ?_
    refine x_isub E dX11_byFigures_66 ?_
    exact x_iret E hr hlk dX11_byFigures_67 ⟨rfl, h⟩
  · replace h := xbr_f h c1
    clear c1
    refine x_iload E dX11_byFigures_9 5 rfl ?_
    refine x_iload E dX11_byFigures_11 4 rfl ?_
    refine x_icmp_ge (tgt := 63) E dX11_byFigures_13 (by decide) (fun c2 => ?_) (fun c2 => ?_)
    · replace h := xbr_t h c2
      clear c2
      refine x_iload_n E dX11_byFigures_63 rfl 2 rfl ?_
      refine x_iload E dX11_byFigures_64 4 rfl ?_
      refine x_isub E dX11_byFigures_66 ?_
      exact x_iret E hr hlk dX11_byFigures_67 ⟨rfl, h⟩
    · replace h := xbr_f h c2
      clear c2
      refine x_aload_n E dX11_byFigures_16 rfl 0 rfl ?_
      obtain ⟨hT, q3, hv, h⟩ := h
      refine x_get E flX11_7 dX11_byFigures_17 hT hv ?_
      clear hT hv
      refine x_iload_n E dX11_byFigures_20 rfl 1 rfl ?_
      refine x_iload E dX11_byFigures_21 5 rfl ?_
      refine x_iadd E dX11_byFigures_23 ?_
      obtain ⟨hT, hi, v4, hv, h⟩ := h
      refine x_iald E dX11_byFigures_24 hT hi hv ?_
      clear hT hi hv
      refine x_aload_n E dX11_byFigures_25 rfl 0 rfl ?_
      obtain ⟨hT, q5, hv, h⟩ := h
      refine x_get E flX11_7 dX11_byFigures_26 hT hv ?_
      clear hT hv
      refine x_iload_n E dX11_byFigures_29 rfl 3 rfl ?_
      refine x_iload E dX11_byFigures_30 5 rfl ?_
      refine x_iadd E dX11_byFigures_32 ?_
      obtain ⟨hT, hi, v6, hv, h⟩ := h
      refine x_iald E dX11_byFigures_33 hT hi hv ?_
      clear hT hi hv
      refine x_icmp_eq (tgt := 57) E dX11_byFigures_34 (by decide) (fun c7 => ?_) (fun c7 => ?_)
      · replace h := xbr_t h c7
        clear c7
        refine x_iinc (v := (x5 + (J 1))) (L' := [(5, .int (x5 + (J 1))), (0, .ref a0), (1, .int x1), (2, .int x2), (3, .int x3), (4, .int x4)]) E dX11_byFigures_57 5 rfl rfl (by decide) rfl ?_
        refine x_goto (tgt := 3) E dX11_byFigures_60 (by decide) ?_
        refine x_sub (L' := [(0, .ref a0), (1, .int x1), (2, .int x2), (3, .int x3), (4, .int x4), (5, .int (x5 + (J 1)))]) [1, 2, 3, 4, 5, 0] rfl ?_
        exact hk3 (x5 + (J 1)) h
      · replace h := xbr_f h c7
        clear c7
        refine x_aload_n E dX11_byFigures_37 rfl 0 rfl ?_
        obtain ⟨hT, q8, hv, h⟩ := h
        refine x_get E flX11_7 dX11_byFigures_38 hT hv ?_
        clear hT hv
        refine x_iload_n E dX11_byFigures_41 rfl 1 rfl ?_
        refine x_iload E dX11_byFigures_42 5 rfl ?_
        refine x_iadd E dX11_byFigures_44 ?_
        obtain ⟨hT, hi, v9, hv, h⟩ := h
        refine x_iald E dX11_byFigures_45 hT hi hv ?_
        clear hT hi hv
        refine x_aload_n E dX11_byFigures_46 rfl 0 rfl ?_
        obtain ⟨hT, q10, hv, h⟩ := h
        refine x_get E flX11_7 dX11_byFigures_47 hT hv ?_
        clear hT hv
        refine x_iload_n E dX11_byFigures_50 rfl 3 rfl ?_
        refine x_iload E dX11_byFigures_51 5 rfl ?_
        refine x_iadd E dX11_byFigures_53 ?_
        obtain ⟨hT, hi, v11, hv, h⟩ := h
        refine x_iald E dX11_byFigures_54 hT hi hv ?_
        clear hT hi hv
        refine x_isub E dX11_byFigures_55 ?_
        exact x_iret E hr hlk dX11_byFigures_56 ⟨rfl, h⟩
theorem dX11_byClass_0 : decode cX11_byClass 0 = .ok (.aload_n 0, 1) := by decide +kernel
theorem dX11_byClass_1 : decode cX11_byClass 1 = .ok (.getfield 7, 3) := by decide +kernel
theorem dX11_byClass_4 : decode cX11_byClass 4 = .ok (.bipush 16, 2) := by decide +kernel
theorem dX11_byClass_6 : decode cX11_byClass 6 = .ok (.iload_n 1, 1) := by decide +kernel
theorem dX11_byClass_7 : decode cX11_byClass 7 = .ok (.imul, 1) := by decide +kernel
theorem dX11_byClass_8 : decode cX11_byClass 8 = .ok (.iaload, 1) := by decide +kernel
theorem dX11_byClass_9 : decode cX11_byClass 9 = .ok (.aload_n 0, 1) := by decide +kernel
theorem dX11_byClass_10 : decode cX11_byClass 10 = .ok (.getfield 7, 3) := by decide +kernel
theorem dX11_byClass_13 : decode cX11_byClass 13 = .ok (.bipush 16, 2) := by decide +kernel
theorem dX11_byClass_15 : decode cX11_byClass 15 = .ok (.iload_n 2, 1) := by decide +kernel
theorem dX11_byClass_16 : decode cX11_byClass 16 = .ok (.imul, 1) := by decide +kernel
theorem dX11_byClass_17 : decode cX11_byClass 17 = .ok (.iaload, 1) := by decide +kernel
theorem dX11_byClass_18 : decode cX11_byClass 18 = .ok (.isub, 1) := by decide +kernel
theorem dX11_byClass_19 : decode cX11_byClass 19 = .ok (.istore 4, 2) := by decide +kernel
theorem dX11_byClass_21 : decode cX11_byClass 21 = .ok (.iload 4, 2) := by decide +kernel
theorem dX11_byClass_23 : decode cX11_byClass 23 = .ok (.ifCond .ne 8, 3) := by decide +kernel
theorem dX11_byClass_26 : decode cX11_byClass 26 = .ok (.iload_n 3, 1) := by decide +kernel
theorem dX11_byClass_27 : decode cX11_byClass 27 = .ok (.iconst 3, 1) := by decide +kernel
theorem dX11_byClass_28 : decode cX11_byClass 28 = .ok (.if_icmp .ne 8, 3) := by decide +kernel
theorem dX11_byClass_31 : decode cX11_byClass 31 = .ok (.iload 4, 2) := by decide +kernel
theorem dX11_byClass_33 : decode cX11_byClass 33 = .ok (.goto 26, 3) := by decide +kernel
theorem dX11_byClass_36 : decode cX11_byClass 36 = .ok (.aload_n 0, 1) := by decide +kernel
theorem dX11_byClass_37 : decode cX11_byClass 37 = .ok (.getfield 7, 3) := by decide +kernel
theorem dX11_byClass_40 : decode cX11_byClass 40 = .ok (.bipush 16, 2) := by decide +kernel
theorem dX11_byClass_42 : decode cX11_byClass 42 = .ok (.iload_n 1, 1) := by decide +kernel
theorem dX11_byClass_43 : decode cX11_byClass 43 = .ok (.imul, 1) := by decide +kernel
theorem dX11_byClass_44 : decode cX11_byClass 44 = .ok (.iconst 1, 1) := by decide +kernel
theorem dX11_byClass_45 : decode cX11_byClass 45 = .ok (.iadd, 1) := by decide +kernel
theorem dX11_byClass_46 : decode cX11_byClass 46 = .ok (.iaload, 1) := by decide +kernel
theorem dX11_byClass_47 : decode cX11_byClass 47 = .ok (.aload_n 0, 1) := by decide +kernel
theorem dX11_byClass_48 : decode cX11_byClass 48 = .ok (.getfield 7, 3) := by decide +kernel
theorem dX11_byClass_51 : decode cX11_byClass 51 = .ok (.bipush 16, 2) := by decide +kernel
theorem dX11_byClass_53 : decode cX11_byClass 53 = .ok (.iload_n 2, 1) := by decide +kernel
theorem dX11_byClass_54 : decode cX11_byClass 54 = .ok (.imul, 1) := by decide +kernel
theorem dX11_byClass_55 : decode cX11_byClass 55 = .ok (.iconst 1, 1) := by decide +kernel
theorem dX11_byClass_56 : decode cX11_byClass 56 = .ok (.iadd, 1) := by decide +kernel
theorem dX11_byClass_57 : decode cX11_byClass 57 = .ok (.iaload, 1) := by decide +kernel
theorem dX11_byClass_58 : decode cX11_byClass 58 = .ok (.isub, 1) := by decide +kernel
theorem dX11_byClass_59 : decode cX11_byClass 59 = .ok (.ireturn, 1) := by decide +kernel
set_option maxHeartbeats 4000000 in
set_option maxRecDepth 100000 in
theorem kX11_byClass (l : Launch) (z : Nat) (D : va_G) (cA : Nat → ClassId) (a0 : Nat) (x1 : Int32) (x2 : Int32) (x3 : Int32) (M : Mem) (K : Int32 → Prop) (h : PX11_byClass a0 x1 x2 x3 M K) : Met l yX11_byClass (.code yX11_byClass cX11_byClass 5 (some .int) :: gtbl) ({ frames := 0, cells := 0, slots := 0, locals := 0 } : Room) (va_Pc [.ref a0, .int x1, .int x2, .int x3] (xB z D cA M)) (va_Qi (fun r M1 => M1 = M ∧ K r) (xWd z D cA) (xA z)) 0 0 (xA z) := by
  refine x_met (by decide +kernel) (Nat.le_of_ble_eq_true rfl) (L0 := [(0, .ref a0), (1, .int x1), (2, .int x2), (3, .int x3)]) rfl ?_
  intro p e s m args below meth c E hr hlk hnm
  have E : xE RX11 cX11_byClass 5 D cA p s m args c := E
  replace h := h.2
  refine x_aload_n E dX11_byClass_0 rfl 0 rfl ?_
  obtain ⟨hT, q1, hv, h⟩ := h
  refine x_get E flX11_7 dX11_byClass_1 hT hv ?_
  clear hT hv
  refine x_bipush (v := (J 16)) E dX11_byClass_4 (by decide) ?_
  refine x_iload_n E dX11_byClass_6 rfl 1 rfl ?_
  refine x_imul E dX11_byClass_7 ?_
  obtain ⟨hT, hi, v2, hv, h⟩ := h
  refine x_iald E dX11_byClass_8 hT hi hv ?_
  clear hT hi hv
  refine x_aload_n E dX11_byClass_9 rfl 0 rfl ?_
  obtain ⟨hT, q3, hv, h⟩ := h
  refine x_get E flX11_7 dX11_byClass_10 hT hv ?_
  clear hT hv
  refine x_bipush (v := (J 16)) E dX11_byClass_13 (by decide) ?_
  refine x_iload_n E dX11_byClass_15 rfl 2 rfl ?_
  refine x_imul E dX11_byClass_16 ?_
  obtain ⟨hT, hi, v4, hv, h⟩ := h
  refine x_iald E dX11_byClass_17 hT hi hv ?_
  clear hT hi hv
  refine x_isub E dX11_byClass_18 ?_
  obtain ⟨y5, ey5, h⟩ := h
  refine x_top (v := .int y5) (congrArg _ ey5) ?_
  clear ey5
  refine x_istore (L' := [(4, .int y5), (0, .ref a0), (1, .int x1), (2, .int x2), (3, .int x3)]) E dX11_byClass_19 (by decide) rfl ?_
  refine x_iload E dX11_byClass_21 0 rfl ?_
  refine x_if_ne (tgt := 31) E dX11_byClass_23 (by decide) (fun c6 => ?_) (fun c6 => ?_)
  · replace h := xbr_f h c6
    clear c6
    refine x_iload E dX11_byClass_31 0 rfl ?_
    refine x_goto (tgt := 59) E dX11_byClass_33 (by decide) ?_
    exact x_iret E hr hlk dX11_byClass_59 ⟨rfl, h⟩
  · replace h := xbr_t h c6
    clear c6
    refine x_iload_n E dX11_byClass_26 rfl 4 rfl ?_
    refine x_iconst (v := (J 3)) E dX11_byClass_27 (by decide) ?_
    refine x_icmp_ne (tgt := 36) E dX11_byClass_28 (by decide) (fun c7 => ?_) (fun c7 => ?_)
    · replace h := xbr_f h c7
      clear c7
      refine x_aload_n E dX11_byClass_36 rfl 1 rfl ?_
      obtain ⟨hT, q8, hv, h⟩ := h
      refine x_get E flX11_7 dX11_byClass_37 hT hv ?_
      clear hT hv
      refine x_bipush (v := (J 16)) E dX11_byClass_40 (by decide) ?_
      refine x_iload_n E dX11_byClass_42 rfl 2 rfl ?_
      refine x_imul E dX11_byClass_43 ?_
      refine x_iconst (v := (J 1)) E dX11_byClass_44 (by decide) ?_
      refine x_iadd E dX11_byClass_45 ?_
      obtain ⟨hT, hi, v9, hv, h⟩ := h
      refine x_iald E dX11_byClass_46 hT hi hv ?_
      clear hT hi hv
      refine x_aload_n E dX11_byClass_47 rfl 1 rfl ?_
      obtain ⟨hT, q10, hv, h⟩ := h
      refine x_get E flX11_7 dX11_byClass_48 hT hv ?_
      clear hT hv
      refine x_bipush (v := (J 16)) E dX11_byClass_51 (by decide) ?_
      refine x_iload_n E dX11_byClass_53 rfl 3 rfl ?_
      refine x_imul E dX11_byClass_54 ?_
      refine x_iconst (v := (J 1)) E dX11_byClass_55 (by decide) ?_
      refine x_iadd E dX11_byClass_56 ?_
      obtain ⟨hT, hi, v11, hv, h⟩ := h
      refine x_iald E dX11_byClass_57 hT hi hv ?_
      clear hT hi hv
      refine x_isub E dX11_byClass_58 ?_
      exact x_iret E hr hlk dX11_byClass_59 ⟨rfl, h⟩
    · replace h := xbr_t h c7
      clear c7
      refine x_iload E dX11_byClass_31 0 rfl ?_
      refine x_goto (tgt := 59) E dX11_byClass_33 (by decide) ?_
      exact x_iret E hr hlk dX11_byClass_59 ⟨rfl, h⟩
theorem dX11_byNumber_0 : decode cX11_byNumber 0 = .ok (.iload_n 3, 1) := by decide +kernel
theorem dX11_byNumber_1 : decode cX11_byNumber 1 = .ok (.iconst 4, 1) := by decide +kernel
theorem dX11_byNumber_2 : decode cX11_byNumber 2 = .ok (.if_icmp .ne 34, 3) := by decide +kernel
theorem dX11_byNumber_5 : decode cX11_byNumber 5 = .ok (.aload_n 0, 1) := by decide +kernel
theorem dX11_byNumber_6 : decode cX11_byNumber 6 = .ok (.bipush 16, 2) := by decide +kernel
theorem dX11_byNumber_8 : decode cX11_byNumber 8 = .ok (.iload_n 1, 1) := by decide +kernel
theorem dX11_byNumber_9 : decode cX11_byNumber 9 = .ok (.imul, 1) := by decide +kernel
theorem dX11_byNumber_10 : decode cX11_byNumber 10 = .ok (.iconst 2, 1) := by decide +kernel
theorem dX11_byNumber_11 : decode cX11_byNumber 11 = .ok (.iadd, 1) := by decide +kernel
theorem dX11_byNumber_12 : decode cX11_byNumber 12 = .ok (.aload_n 0, 1) := by decide +kernel
theorem dX11_byNumber_13 : decode cX11_byNumber 13 = .ok (.getfield 13, 3) := by decide +kernel
theorem dX11_byNumber_16 : decode cX11_byNumber 16 = .ok (.iload_n 1, 1) := by decide +kernel
theorem dX11_byNumber_17 : decode cX11_byNumber 17 = .ok (.iaload, 1) := by decide +kernel
theorem dX11_byNumber_18 : decode cX11_byNumber 18 = .ok (.bipush 16, 2) := by decide +kernel
theorem dX11_byNumber_20 : decode cX11_byNumber 20 = .ok (.iload_n 2, 1) := by decide +kernel
theorem dX11_byNumber_21 : decode cX11_byNumber 21 = .ok (.imul, 1) := by decide +kernel
theorem dX11_byNumber_22 : decode cX11_byNumber 22 = .ok (.iconst 2, 1) := by decide +kernel
theorem dX11_byNumber_23 : decode cX11_byNumber 23 = .ok (.iadd, 1) := by decide +kernel
theorem dX11_byNumber_24 : decode cX11_byNumber 24 = .ok (.aload_n 0, 1) := by decide +kernel
theorem dX11_byNumber_25 : decode cX11_byNumber 25 = .ok (.getfield 13, 3) := by decide +kernel
theorem dX11_byNumber_28 : decode cX11_byNumber 28 = .ok (.iload_n 2, 1) := by decide +kernel
theorem dX11_byNumber_29 : decode cX11_byNumber 29 = .ok (.iaload, 1) := by decide +kernel
theorem dX11_byNumber_30 : decode cX11_byNumber 30 = .ok (.invokevirtual 194, 3) := by decide +kernel
theorem dX11_byNumber_33 : decode cX11_byNumber 33 = .ok (.goto 42, 3) := by decide +kernel
theorem dX11_byNumber_36 : decode cX11_byNumber 36 = .ok (.aload_n 0, 1) := by decide +kernel
theorem dX11_byNumber_37 : decode cX11_byNumber 37 = .ok (.getfield 7, 3) := by decide +kernel
theorem dX11_byNumber_40 : decode cX11_byNumber 40 = .ok (.bipush 16, 2) := by decide +kernel
theorem dX11_byNumber_42 : decode cX11_byNumber 42 = .ok (.iload_n 1, 1) := by decide +kernel
theorem dX11_byNumber_43 : decode cX11_byNumber 43 = .ok (.imul, 1) := by decide +kernel
theorem dX11_byNumber_44 : decode cX11_byNumber 44 = .ok (.iconst 2, 1) := by decide +kernel
theorem dX11_byNumber_45 : decode cX11_byNumber 45 = .ok (.iadd, 1) := by decide +kernel
theorem dX11_byNumber_46 : decode cX11_byNumber 46 = .ok (.aload_n 0, 1) := by decide +kernel
theorem dX11_byNumber_47 : decode cX11_byNumber 47 = .ok (.getfield 13, 3) := by decide +kernel
theorem dX11_byNumber_50 : decode cX11_byNumber 50 = .ok (.iload_n 1, 1) := by decide +kernel
theorem dX11_byNumber_51 : decode cX11_byNumber 51 = .ok (.iaload, 1) := by decide +kernel
theorem dX11_byNumber_52 : decode cX11_byNumber 52 = .ok (.invokestatic 170, 3) := by decide +kernel
theorem dX11_byNumber_55 : decode cX11_byNumber 55 = .ok (.aload_n 0, 1) := by decide +kernel
theorem dX11_byNumber_56 : decode cX11_byNumber 56 = .ok (.getfield 7, 3) := by decide +kernel
theorem dX11_byNumber_59 : decode cX11_byNumber 59 = .ok (.bipush 16, 2) := by decide +kernel
theorem dX11_byNumber_61 : decode cX11_byNumber 61 = .ok (.iload_n 2, 1) := by decide +kernel
theorem dX11_byNumber_62 : decode cX11_byNumber 62 = .ok (.imul, 1) := by decide +kernel
theorem dX11_byNumber_63 : decode cX11_byNumber 63 = .ok (.iconst 2, 1) := by decide +kernel
theorem dX11_byNumber_64 : decode cX11_byNumber 64 = .ok (.iadd, 1) := by decide +kernel
theorem dX11_byNumber_65 : decode cX11_byNumber 65 = .ok (.aload_n 0, 1) := by decide +kernel
theorem dX11_byNumber_66 : decode cX11_byNumber 66 = .ok (.getfield 13, 3) := by decide +kernel
theorem dX11_byNumber_69 : decode cX11_byNumber 69 = .ok (.iload_n 2, 1) := by decide +kernel
theorem dX11_byNumber_70 : decode cX11_byNumber 70 = .ok (.iaload, 1) := by decide +kernel
theorem dX11_byNumber_71 : decode cX11_byNumber 71 = .ok (.invokestatic 170, 3) := by decide +kernel
theorem dX11_byNumber_74 : decode cX11_byNumber 74 = .ok (.isub, 1) := by decide +kernel
theorem dX11_byNumber_75 : decode cX11_byNumber 75 = .ok (.ireturn, 1) := by decide +kernel
set_option maxHeartbeats 4000000 in
set_option maxRecDepth 100000 in
theorem kX11_byNumber (l : Launch) (z : Nat) (D : va_G) (cA : Nat → ClassId) (a0 : Nat) (x1 : Int32) (x2 : Int32) (x3 : Int32) (M : Mem) (K : Int32 → Prop) (h : PX11_byNumber a0 x1 x2 x3 M K) : Met l yX11_byNumber (.code yX11_byNumber cX11_byNumber 4 (some .int) :: gtbl) ({ frames := 1, cells := 0, slots := 0, locals := 25 } : Room) (va_Pc [.ref a0, .int x1, .int x2, .int x3] (xB z D cA M)) (va_Qi (fun r M1 => M1 = M ∧ K r) (xWd z D cA) (xA z)) 0 0 (xA z) := by
  refine x_met (by decide +kernel) (Nat.le_of_ble_eq_true rfl) (L0 := [(0, .ref a0), (1, .int x1), (2, .int x2), (3, .int x3)]) rfl ?_
  intro p e s m args below meth c E hr hlk hnm
  have E : xE RX11 cX11_byNumber 4 D cA p s m args c := E
  replace h := h.2
  refine x_iload_n E dX11_byNumber_0 rfl 3 rfl ?_
  refine x_iconst (v := (J 4)) E dX11_byNumber_1 (by decide) ?_
  refine x_icmp_ne (tgt := 36) E dX11_byNumber_2 (by decide) (fun c1 => ?_) (fun c1 => ?_)
  · replace h := xbr_f h c1
    clear c1
    refine x_aload_n E dX11_byNumber_36 rfl 0 rfl ?_
    obtain ⟨hT, q2, hv, h⟩ := h
    refine x_get E flX11_7 dX11_byNumber_37 hT hv ?_
    clear hT hv
    refine x_bipush (v := (J 16)) E dX11_byNumber_40 (by decide) ?_
    refine x_iload_n E dX11_byNumber_42 rfl 1 rfl ?_
    refine x_imul E dX11_byNumber_43 ?_
    refine x_iconst (v := (J 2)) E dX11_byNumber_44 (by decide) ?_
    refine x_iadd E dX11_byNumber_45 ?_
    refine x_aload_n E dX11_byNumber_46 rfl 0 rfl ?_
    obtain ⟨hT, q3, hv, h⟩ := h
    refine x_get E flX11_13 dX11_byNumber_47 hT hv ?_
    clear hT hv
    refine x_iload_n E dX11_byNumber_50 rfl 1 rfl ?_
    obtain ⟨hT, hi, v4, hv, h⟩ := h
    refine x_iald E dX11_byNumber_51 hT hi hv ?_
    clear hT hi hv
    refine x_callSi (As := [.ref q2, .int (((J 16) * x1) + (J 2)), .int v4]) E mlX11_170 rfl stX11_whole (kX11_whole l z D cA q2 (((J 16) * x1) + (J 2)) v4 M _ h) rfl ⟨rfl, rfl⟩ ⟨Nat.le_of_ble_eq_true rfl, Nat.le_of_ble_eq_true rfl⟩ ⟨(Nat.le_of_ble_eq_true rfl), (Nat.le_of_ble_eq_true rfl)⟩ (Nat.le_of_ble_eq_true rfl) rfl dX11_byNumber_52 (x_pure (fun r5 h => ?_))
    refine x_aload_n E dX11_byNumber_55 rfl 0 rfl ?_
    obtain ⟨hT, q7, hv, h⟩ := h
    refine x_get E flX11_7 dX11_byNumber_56 hT hv ?_
    clear hT hv
    refine x_bipush (v := (J 16)) E dX11_byNumber_59 (by decide) ?_
    refine x_iload_n E dX11_byNumber_61 rfl 2 rfl ?_
    refine x_imul E dX11_byNumber_62 ?_
    refine x_iconst (v := (J 2)) E dX11_byNumber_63 (by decide) ?_
    refine x_iadd E dX11_byNumber_64 ?_
    refine x_aload_n E dX11_byNumber_65 rfl 0 rfl ?_
    obtain ⟨hT, q8, hv, h⟩ := h
    refine x_get E flX11_13 dX11_byNumber_66 hT hv ?_
    clear hT hv
    refine x_iload_n E dX11_byNumber_69 rfl 2 rfl ?_
    obtain ⟨hT, hi, v9, hv, h⟩ := h
    refine x_iald E dX11_byNumber_70 hT hi hv ?_
    clear hT hi hv
    refine x_callSi (As := [.ref q7, .int (((J 16) * x2) + (J 2)), .int v9]) E mlX11_170 rfl stX11_whole (kX11_whole l z D cA q7 (((J 16) * x2) + (J 2)) v9 M _ h) rfl ⟨rfl, rfl⟩ ⟨Nat.le_of_ble_eq_true rfl, Nat.le_of_ble_eq_true rfl⟩ ⟨(Nat.le_of_ble_eq_true rfl), (Nat.le_of_ble_eq_true rfl)⟩ (Nat.le_of_ble_eq_true rfl) rfl dX11_byNumber_71 (x_pure (fun r10 h => ?_))
    refine x_isub E dX11_byNumber_74 ?_
    exact x_iret E hr hlk dX11_byNumber_75 ⟨rfl, h⟩
  · replace h := xbr_t h c1
    clear c1
    refine x_aload_n E dX11_byNumber_5 rfl 0 rfl ?_
    refine x_bipush (v := (J 16)) E dX11_byNumber_6 (by decide) ?_
    refine x_iload_n E dX11_byNumber_8 rfl 1 rfl ?_
    refine x_imul E dX11_byNumber_9 ?_
    refine x_iconst (v := (J 2)) E dX11_byNumber_10 (by decide) ?_
    refine x_iadd E dX11_byNumber_11 ?_
    refine x_aload_n E dX11_byNumber_12 rfl 0 rfl ?_
    obtain ⟨hT, q12, hv, h⟩ := h
    refine x_get E flX11_13 dX11_byNumber_13 hT hv ?_
    clear hT hv
    refine x_iload_n E dX11_byNumber_16 rfl 1 rfl ?_
    obtain ⟨hT, hi, v13, hv, h⟩ := h
    refine x_iald E dX11_byNumber_17 hT hi hv ?_
    clear hT hi hv
    refine x_bipush (v := (J 16)) E dX11_byNumber_18 (by decide) ?_
    refine x_iload_n E dX11_byNumber_20 rfl 2 rfl ?_
    refine x_imul E dX11_byNumber_21 ?_
    refine x_iconst (v := (J 2)) E dX11_byNumber_22 (by decide) ?_
    refine x_iadd E dX11_byNumber_23 ?_
    refine x_aload_n E dX11_byNumber_24 rfl 0 rfl ?_
    obtain ⟨hT, q14, hv, h⟩ := h
    refine x_get E flX11_13 dX11_byNumber_25 hT hv ?_
    clear hT hv
    refine x_iload_n E dX11_byNumber_28 rfl 2 rfl ?_
    obtain ⟨hT, hi, v15, hv, h⟩ := h
    refine x_iald E dX11_byNumber_29 hT hi hv ?_
    clear hT hi hv
    refine x_callVi (T := TX11) (N := 32) (t := 12) (As := [.int (((J 16) * x1) + (J 2)), .int v13, .int (((J 16) * x2) + (J 2)), .int v15]) E mlX11_194 inX11_byFigures seX11_byFigures rfl ⟨by decide, by decide⟩ (tX11_byFigures h) (kX11_byFigures l z D cA a0 (((J 16) * x1) + (J 2)) v13 (((J 16) * x2) + (J 2)) v15 M _ h) rfl ⟨rfl, rfl⟩ ⟨Nat.le_of_ble_eq_true rfl, Nat.le_of_ble_eq_true rfl⟩ ⟨(Nat.le_of_ble_eq_true rfl), (Nat.le_of_ble_eq_true rfl)⟩ (Nat.le_of_ble_eq_true rfl) rfl dX11_byNumber_30 (x_pure (fun r16 h => ?_))
    refine x_goto (tgt := 75) E dX11_byNumber_33 (by decide) ?_
    exact x_iret E hr hlk dX11_byNumber_75 ⟨rfl, h⟩
theorem dX11_byDecimals_0 : decode cX11_byDecimals 0 = .ok (.iload_n 3, 1) := by decide +kernel
theorem dX11_byDecimals_1 : decode cX11_byDecimals 1 = .ok (.iconst 1, 1) := by decide +kernel
theorem dX11_byDecimals_2 : decode cX11_byDecimals 2 = .ok (.if_icmp .ne 47, 3) := by decide +kernel
theorem dX11_byDecimals_5 : decode cX11_byDecimals 5 = .ok (.aload_n 0, 1) := by decide +kernel
theorem dX11_byDecimals_6 : decode cX11_byDecimals 6 = .ok (.getfield 7, 3) := by decide +kernel
theorem dX11_byDecimals_9 : decode cX11_byDecimals 9 = .ok (.bipush 16, 2) := by decide +kernel
theorem dX11_byDecimals_11 : decode cX11_byDecimals 11 = .ok (.iload_n 1, 1) := by decide +kernel
theorem dX11_byDecimals_12 : decode cX11_byDecimals 12 = .ok (.imul, 1) := by decide +kernel
theorem dX11_byDecimals_13 : decode cX11_byDecimals 13 = .ok (.bipush 6, 2) := by decide +kernel
theorem dX11_byDecimals_15 : decode cX11_byDecimals 15 = .ok (.iadd, 1) := by decide +kernel
theorem dX11_byDecimals_16 : decode cX11_byDecimals 16 = .ok (.aload_n 0, 1) := by decide +kernel
theorem dX11_byDecimals_17 : decode cX11_byDecimals 17 = .ok (.getfield 16, 3) := by decide +kernel
theorem dX11_byDecimals_20 : decode cX11_byDecimals 20 = .ok (.iload_n 1, 1) := by decide +kernel
theorem dX11_byDecimals_21 : decode cX11_byDecimals 21 = .ok (.iaload, 1) := by decide +kernel
theorem dX11_byDecimals_22 : decode cX11_byDecimals 22 = .ok (.invokestatic 170, 3) := by decide +kernel
theorem dX11_byDecimals_25 : decode cX11_byDecimals 25 = .ok (.aload_n 0, 1) := by decide +kernel
theorem dX11_byDecimals_26 : decode cX11_byDecimals 26 = .ok (.getfield 7, 3) := by decide +kernel
theorem dX11_byDecimals_29 : decode cX11_byDecimals 29 = .ok (.bipush 16, 2) := by decide +kernel
theorem dX11_byDecimals_31 : decode cX11_byDecimals 31 = .ok (.iload_n 2, 1) := by decide +kernel
theorem dX11_byDecimals_32 : decode cX11_byDecimals 32 = .ok (.imul, 1) := by decide +kernel
theorem dX11_byDecimals_33 : decode cX11_byDecimals 33 = .ok (.bipush 6, 2) := by decide +kernel
theorem dX11_byDecimals_35 : decode cX11_byDecimals 35 = .ok (.iadd, 1) := by decide +kernel
theorem dX11_byDecimals_36 : decode cX11_byDecimals 36 = .ok (.aload_n 0, 1) := by decide +kernel
theorem dX11_byDecimals_37 : decode cX11_byDecimals 37 = .ok (.getfield 16, 3) := by decide +kernel
theorem dX11_byDecimals_40 : decode cX11_byDecimals 40 = .ok (.iload_n 2, 1) := by decide +kernel
theorem dX11_byDecimals_41 : decode cX11_byDecimals 41 = .ok (.iaload, 1) := by decide +kernel
theorem dX11_byDecimals_42 : decode cX11_byDecimals 42 = .ok (.invokestatic 170, 3) := by decide +kernel
theorem dX11_byDecimals_45 : decode cX11_byDecimals 45 = .ok (.isub, 1) := by decide +kernel
theorem dX11_byDecimals_46 : decode cX11_byDecimals 46 = .ok (.goto 33, 3) := by decide +kernel
theorem dX11_byDecimals_49 : decode cX11_byDecimals 49 = .ok (.aload_n 0, 1) := by decide +kernel
theorem dX11_byDecimals_50 : decode cX11_byDecimals 50 = .ok (.bipush 16, 2) := by decide +kernel
theorem dX11_byDecimals_52 : decode cX11_byDecimals 52 = .ok (.iload_n 1, 1) := by decide +kernel
theorem dX11_byDecimals_53 : decode cX11_byDecimals 53 = .ok (.imul, 1) := by decide +kernel
theorem dX11_byDecimals_54 : decode cX11_byDecimals 54 = .ok (.bipush 6, 2) := by decide +kernel
theorem dX11_byDecimals_56 : decode cX11_byDecimals 56 = .ok (.iadd, 1) := by decide +kernel
theorem dX11_byDecimals_57 : decode cX11_byDecimals 57 = .ok (.aload_n 0, 1) := by decide +kernel
theorem dX11_byDecimals_58 : decode cX11_byDecimals 58 = .ok (.getfield 16, 3) := by decide +kernel
theorem dX11_byDecimals_61 : decode cX11_byDecimals 61 = .ok (.iload_n 1, 1) := by decide +kernel
theorem dX11_byDecimals_62 : decode cX11_byDecimals 62 = .ok (.iaload, 1) := by decide +kernel
theorem dX11_byDecimals_63 : decode cX11_byDecimals 63 = .ok (.bipush 16, 2) := by decide +kernel
theorem dX11_byDecimals_65 : decode cX11_byDecimals 65 = .ok (.iload_n 2, 1) := by decide +kernel
theorem dX11_byDecimals_66 : decode cX11_byDecimals 66 = .ok (.imul, 1) := by decide +kernel
theorem dX11_byDecimals_67 : decode cX11_byDecimals 67 = .ok (.bipush 6, 2) := by decide +kernel
theorem dX11_byDecimals_69 : decode cX11_byDecimals 69 = .ok (.iadd, 1) := by decide +kernel
theorem dX11_byDecimals_70 : decode cX11_byDecimals 70 = .ok (.aload_n 0, 1) := by decide +kernel
theorem dX11_byDecimals_71 : decode cX11_byDecimals 71 = .ok (.getfield 16, 3) := by decide +kernel
theorem dX11_byDecimals_74 : decode cX11_byDecimals 74 = .ok (.iload_n 2, 1) := by decide +kernel
theorem dX11_byDecimals_75 : decode cX11_byDecimals 75 = .ok (.iaload, 1) := by decide +kernel
theorem dX11_byDecimals_76 : decode cX11_byDecimals 76 = .ok (.invokevirtual 194, 3) := by decide +kernel
theorem dX11_byDecimals_79 : decode cX11_byDecimals 79 = .ok (.ireturn, 1) := by decide +kernel
set_option maxHeartbeats 4000000 in
set_option maxRecDepth 100000 in
theorem kX11_byDecimals (l : Launch) (z : Nat) (D : va_G) (cA : Nat → ClassId) (a0 : Nat) (x1 : Int32) (x2 : Int32) (x3 : Int32) (M : Mem) (K : Int32 → Prop) (h : PX11_byDecimals a0 x1 x2 x3 M K) : Met l yX11_byDecimals (.code yX11_byDecimals cX11_byDecimals 4 (some .int) :: gtbl) ({ frames := 1, cells := 0, slots := 0, locals := 25 } : Room) (va_Pc [.ref a0, .int x1, .int x2, .int x3] (xB z D cA M)) (va_Qi (fun r M1 => M1 = M ∧ K r) (xWd z D cA) (xA z)) 0 0 (xA z) := by
  refine x_met (by decide +kernel) (Nat.le_of_ble_eq_true rfl) (L0 := [(0, .ref a0), (1, .int x1), (2, .int x2), (3, .int x3)]) rfl ?_
  intro p e s m args below meth c E hr hlk hnm
  have E : xE RX11 cX11_byDecimals 4 D cA p s m args c := E
  replace h := h.2
  refine x_iload_n E dX11_byDecimals_0 rfl 3 rfl ?_
  refine x_iconst (v := (J 1)) E dX11_byDecimals_1 (by decide) ?_
  refine x_icmp_ne (tgt := 49) E dX11_byDecimals_2 (by decide) (fun c1 => ?_) (fun c1 => ?_)
  · replace h := xbr_f h c1
    clear c1
    refine x_aload_n E dX11_byDecimals_49 rfl 0 rfl ?_
    refine x_bipush (v := (J 16)) E dX11_byDecimals_50 (by decide) ?_
    refine x_iload_n E dX11_byDecimals_52 rfl 1 rfl ?_
    refine x_imul E dX11_byDecimals_53 ?_
    refine x_bipush (v := (J 6)) E dX11_byDecimals_54 (by decide) ?_
    refine x_iadd E dX11_byDecimals_56 ?_
    refine x_aload_n E dX11_byDecimals_57 rfl 0 rfl ?_
    obtain ⟨hT, q2, hv, h⟩ := h
    refine x_get E flX11_16 dX11_byDecimals_58 hT hv ?_
    clear hT hv
    refine x_iload_n E dX11_byDecimals_61 rfl 1 rfl ?_
    obtain ⟨hT, hi, v3, hv, h⟩ := h
    refine x_iald E dX11_byDecimals_62 hT hi hv ?_
    clear hT hi hv
    refine x_bipush (v := (J 16)) E dX11_byDecimals_63 (by decide) ?_
    refine x_iload_n E dX11_byDecimals_65 rfl 2 rfl ?_
    refine x_imul E dX11_byDecimals_66 ?_
    refine x_bipush (v := (J 6)) E dX11_byDecimals_67 (by decide) ?_
    refine x_iadd E dX11_byDecimals_69 ?_
    refine x_aload_n E dX11_byDecimals_70 rfl 0 rfl ?_
    obtain ⟨hT, q4, hv, h⟩ := h
    refine x_get E flX11_16 dX11_byDecimals_71 hT hv ?_
    clear hT hv
    refine x_iload_n E dX11_byDecimals_74 rfl 2 rfl ?_
    obtain ⟨hT, hi, v5, hv, h⟩ := h
    refine x_iald E dX11_byDecimals_75 hT hi hv ?_
    clear hT hi hv
    refine x_callVi (T := TX11) (N := 32) (t := 12) (As := [.int (((J 16) * x1) + (J 6)), .int v3, .int (((J 16) * x2) + (J 6)), .int v5]) E mlX11_194 inX11_byFigures seX11_byFigures rfl ⟨by decide, by decide⟩ (tX11_byFigures h) (kX11_byFigures l z D cA a0 (((J 16) * x1) + (J 6)) v3 (((J 16) * x2) + (J 6)) v5 M _ h) rfl ⟨rfl, rfl⟩ ⟨Nat.le_of_ble_eq_true rfl, Nat.le_of_ble_eq_true rfl⟩ ⟨(Nat.le_of_ble_eq_true rfl), (Nat.le_of_ble_eq_true rfl)⟩ (Nat.le_of_ble_eq_true rfl) rfl dX11_byDecimals_76 (x_pure (fun r6 h => ?_))
    exact x_iret E hr hlk dX11_byDecimals_79 ⟨rfl, h⟩
  · replace h := xbr_t h c1
    clear c1
    refine x_aload_n E dX11_byDecimals_5 rfl 0 rfl ?_
    obtain ⟨hT, q8, hv, h⟩ := h
    refine x_get E flX11_7 dX11_byDecimals_6 hT hv ?_
    clear hT hv
    refine x_bipush (v := (J 16)) E dX11_byDecimals_9 (by decide) ?_
    refine x_iload_n E dX11_byDecimals_11 rfl 1 rfl ?_
    refine x_imul E dX11_byDecimals_12 ?_
    refine x_bipush (v := (J 6)) E dX11_byDecimals_13 (by decide) ?_
    refine x_iadd E dX11_byDecimals_15 ?_
    refine x_aload_n E dX11_byDecimals_16 rfl 0 rfl ?_
    obtain ⟨hT, q9, hv, h⟩ := h
    refine x_get E flX11_16 dX11_byDecimals_17 hT hv ?_
    clear hT hv
    refine x_iload_n E dX11_byDecimals_20 rfl 1 rfl ?_
    obtain ⟨hT, hi, v10, hv, h⟩ := h
    refine x_iald E dX11_byDecimals_21 hT hi hv ?_
    clear hT hi hv
    refine x_callSi (As := [.ref q8, .int (((J 16) * x1) + (J 6)), .int v10]) E mlX11_170 rfl stX11_whole (kX11_whole l z D cA q8 (((J 16) * x1) + (J 6)) v10 M _ h) rfl ⟨rfl, rfl⟩ ⟨Nat.le_of_ble_eq_true rfl, Nat.le_of_ble_eq_true rfl⟩ ⟨(Nat.le_of_ble_eq_true rfl), (Nat.le_of_ble_eq_true rfl)⟩ (Nat.le_of_ble_eq_true rfl) rfl dX11_byDecimals_22 (x_pure (fun r11 h => ?_))
    refine x_aload_n E dX11_byDecimals_25 rfl 0 rfl ?_
    obtain ⟨hT, q13, hv, h⟩ := h
    refine x_get E flX11_7 dX11_byDecimals_26 hT hv ?_
    clear hT hv
    refine x_bipush (v := (J 16)) E dX11_byDecimals_29 (by decide) ?_
    refine x_iload_n E dX11_byDecimals_31 rfl 2 rfl ?_
    refine x_imul E dX11_byDecimals_32 ?_
    refine x_bipush (v := (J 6)) E dX11_byDecimals_33 (by decide) ?_
    refine x_iadd E dX11_byDecimals_35 ?_
    refine x_aload_n E dX11_byDecimals_36 rfl 0 rfl ?_
    obtain ⟨hT, q14, hv, h⟩ := h
    refine x_get E flX11_16 dX11_byDecimals_37 hT hv ?_
    clear hT hv
    refine x_iload_n E dX11_byDecimals_40 rfl 2 rfl ?_
    obtain ⟨hT, hi, v15, hv, h⟩ := h
    refine x_iald E dX11_byDecimals_41 hT hi hv ?_
    clear hT hi hv
    refine x_callSi (As := [.ref q13, .int (((J 16) * x2) + (J 6)), .int v15]) E mlX11_170 rfl stX11_whole (kX11_whole l z D cA q13 (((J 16) * x2) + (J 6)) v15 M _ h) rfl ⟨rfl, rfl⟩ ⟨Nat.le_of_ble_eq_true rfl, Nat.le_of_ble_eq_true rfl⟩ ⟨(Nat.le_of_ble_eq_true rfl), (Nat.le_of_ble_eq_true rfl)⟩ (Nat.le_of_ble_eq_true rfl) rfl dX11_byDecimals_42 (x_pure (fun r16 h => ?_))
    refine x_isub E dX11_byDecimals_45 ?_
    refine x_goto (tgt := 79) E dX11_byDecimals_46 (by decide) ?_
    exact x_iret E hr hlk dX11_byDecimals_79 ⟨rfl, h⟩
theorem dX11_byCutter_0 : decode cX11_byCutter 0 = .ok (.aload_n 0, 1) := by decide +kernel
theorem dX11_byCutter_1 : decode cX11_byCutter 1 = .ok (.getfield 7, 3) := by decide +kernel
theorem dX11_byCutter_4 : decode cX11_byCutter 4 = .ok (.bipush 16, 2) := by decide +kernel
theorem dX11_byCutter_6 : decode cX11_byCutter 6 = .ok (.iload_n 1, 1) := by decide +kernel
theorem dX11_byCutter_7 : decode cX11_byCutter 7 = .ok (.imul, 1) := by decide +kernel
theorem dX11_byCutter_8 : decode cX11_byCutter 8 = .ok (.bipush 10, 2) := by decide +kernel
theorem dX11_byCutter_10 : decode cX11_byCutter 10 = .ok (.iadd, 1) := by decide +kernel
theorem dX11_byCutter_11 : decode cX11_byCutter 11 = .ok (.iaload, 1) := by decide +kernel
theorem dX11_byCutter_12 : decode cX11_byCutter 12 = .ok (.aload_n 0, 1) := by decide +kernel
theorem dX11_byCutter_13 : decode cX11_byCutter 13 = .ok (.getfield 7, 3) := by decide +kernel
theorem dX11_byCutter_16 : decode cX11_byCutter 16 = .ok (.bipush 16, 2) := by decide +kernel
theorem dX11_byCutter_18 : decode cX11_byCutter 18 = .ok (.iload_n 2, 1) := by decide +kernel
theorem dX11_byCutter_19 : decode cX11_byCutter 19 = .ok (.imul, 1) := by decide +kernel
theorem dX11_byCutter_20 : decode cX11_byCutter 20 = .ok (.bipush 10, 2) := by decide +kernel
theorem dX11_byCutter_22 : decode cX11_byCutter 22 = .ok (.iadd, 1) := by decide +kernel
theorem dX11_byCutter_23 : decode cX11_byCutter 23 = .ok (.iaload, 1) := by decide +kernel
theorem dX11_byCutter_24 : decode cX11_byCutter 24 = .ok (.isub, 1) := by decide +kernel
theorem dX11_byCutter_25 : decode cX11_byCutter 25 = .ok (.istore 4, 2) := by decide +kernel
theorem dX11_byCutter_27 : decode cX11_byCutter 27 = .ok (.iload 4, 2) := by decide +kernel
theorem dX11_byCutter_29 : decode cX11_byCutter 29 = .ok (.ifCond .eq 6, 3) := by decide +kernel
theorem dX11_byCutter_32 : decode cX11_byCutter 32 = .ok (.iload 4, 2) := by decide +kernel
theorem dX11_byCutter_34 : decode cX11_byCutter 34 = .ok (.ireturn, 1) := by decide +kernel
theorem dX11_byCutter_35 : decode cX11_byCutter 35 = .ok (.iload_n 3, 1) := by decide +kernel
theorem dX11_byCutter_36 : decode cX11_byCutter 36 = .ok (.iconst 2, 1) := by decide +kernel
theorem dX11_byCutter_37 : decode cX11_byCutter 37 = .ok (.if_icmp .ne 47, 3) := by decide +kernel
theorem dX11_byCutter_40 : decode cX11_byCutter 40 = .ok (.aload_n 0, 1) := by decide +kernel
theorem dX11_byCutter_41 : decode cX11_byCutter 41 = .ok (.getfield 7, 3) := by decide +kernel
theorem dX11_byCutter_44 : decode cX11_byCutter 44 = .ok (.bipush 16, 2) := by decide +kernel
theorem dX11_byCutter_46 : decode cX11_byCutter 46 = .ok (.iload_n 1, 1) := by decide +kernel
theorem dX11_byCutter_47 : decode cX11_byCutter 47 = .ok (.imul, 1) := by decide +kernel
theorem dX11_byCutter_48 : decode cX11_byCutter 48 = .ok (.bipush 11, 2) := by decide +kernel
theorem dX11_byCutter_50 : decode cX11_byCutter 50 = .ok (.iadd, 1) := by decide +kernel
theorem dX11_byCutter_51 : decode cX11_byCutter 51 = .ok (.aload_n 0, 1) := by decide +kernel
theorem dX11_byCutter_52 : decode cX11_byCutter 52 = .ok (.getfield 19, 3) := by decide +kernel
theorem dX11_byCutter_55 : decode cX11_byCutter 55 = .ok (.iload_n 1, 1) := by decide +kernel
theorem dX11_byCutter_56 : decode cX11_byCutter 56 = .ok (.iaload, 1) := by decide +kernel
theorem dX11_byCutter_57 : decode cX11_byCutter 57 = .ok (.invokestatic 170, 3) := by decide +kernel
theorem dX11_byCutter_60 : decode cX11_byCutter 60 = .ok (.aload_n 0, 1) := by decide +kernel
theorem dX11_byCutter_61 : decode cX11_byCutter 61 = .ok (.getfield 7, 3) := by decide +kernel
theorem dX11_byCutter_64 : decode cX11_byCutter 64 = .ok (.bipush 16, 2) := by decide +kernel
theorem dX11_byCutter_66 : decode cX11_byCutter 66 = .ok (.iload_n 2, 1) := by decide +kernel
theorem dX11_byCutter_67 : decode cX11_byCutter 67 = .ok (.imul, 1) := by decide +kernel
theorem dX11_byCutter_68 : decode cX11_byCutter 68 = .ok (.bipush 11, 2) := by decide +kernel
theorem dX11_byCutter_70 : decode cX11_byCutter 70 = .ok (.iadd, 1) := by decide +kernel
theorem dX11_byCutter_71 : decode cX11_byCutter 71 = .ok (.aload_n 0, 1) := by decide +kernel
theorem dX11_byCutter_72 : decode cX11_byCutter 72 = .ok (.getfield 19, 3) := by decide +kernel
theorem dX11_byCutter_75 : decode cX11_byCutter 75 = .ok (.iload_n 2, 1) := by decide +kernel
theorem dX11_byCutter_76 : decode cX11_byCutter 76 = .ok (.iaload, 1) := by decide +kernel
theorem dX11_byCutter_77 : decode cX11_byCutter 77 = .ok (.invokestatic 170, 3) := by decide +kernel
theorem dX11_byCutter_80 : decode cX11_byCutter 80 = .ok (.isub, 1) := by decide +kernel
theorem dX11_byCutter_81 : decode cX11_byCutter 81 = .ok (.goto 33, 3) := by decide +kernel
theorem dX11_byCutter_84 : decode cX11_byCutter 84 = .ok (.aload_n 0, 1) := by decide +kernel
theorem dX11_byCutter_85 : decode cX11_byCutter 85 = .ok (.bipush 16, 2) := by decide +kernel
theorem dX11_byCutter_87 : decode cX11_byCutter 87 = .ok (.iload_n 1, 1) := by decide +kernel
theorem dX11_byCutter_88 : decode cX11_byCutter 88 = .ok (.imul, 1) := by decide +kernel
theorem dX11_byCutter_89 : decode cX11_byCutter 89 = .ok (.bipush 11, 2) := by decide +kernel
theorem dX11_byCutter_91 : decode cX11_byCutter 91 = .ok (.iadd, 1) := by decide +kernel
theorem dX11_byCutter_92 : decode cX11_byCutter 92 = .ok (.aload_n 0, 1) := by decide +kernel
theorem dX11_byCutter_93 : decode cX11_byCutter 93 = .ok (.getfield 19, 3) := by decide +kernel
theorem dX11_byCutter_96 : decode cX11_byCutter 96 = .ok (.iload_n 1, 1) := by decide +kernel
theorem dX11_byCutter_97 : decode cX11_byCutter 97 = .ok (.iaload, 1) := by decide +kernel
theorem dX11_byCutter_98 : decode cX11_byCutter 98 = .ok (.bipush 16, 2) := by decide +kernel
theorem dX11_byCutter_100 : decode cX11_byCutter 100 = .ok (.iload_n 2, 1) := by decide +kernel
theorem dX11_byCutter_101 : decode cX11_byCutter 101 = .ok (.imul, 1) := by decide +kernel
theorem dX11_byCutter_102 : decode cX11_byCutter 102 = .ok (.bipush 11, 2) := by decide +kernel
theorem dX11_byCutter_104 : decode cX11_byCutter 104 = .ok (.iadd, 1) := by decide +kernel
theorem dX11_byCutter_105 : decode cX11_byCutter 105 = .ok (.aload_n 0, 1) := by decide +kernel
theorem dX11_byCutter_106 : decode cX11_byCutter 106 = .ok (.getfield 19, 3) := by decide +kernel
theorem dX11_byCutter_109 : decode cX11_byCutter 109 = .ok (.iload_n 2, 1) := by decide +kernel
theorem dX11_byCutter_110 : decode cX11_byCutter 110 = .ok (.iaload, 1) := by decide +kernel
theorem dX11_byCutter_111 : decode cX11_byCutter 111 = .ok (.invokevirtual 194, 3) := by decide +kernel
theorem dX11_byCutter_114 : decode cX11_byCutter 114 = .ok (.ireturn, 1) := by decide +kernel
set_option maxHeartbeats 4000000 in
set_option maxRecDepth 100000 in
theorem kX11_byCutter (l : Launch) (z : Nat) (D : va_G) (cA : Nat → ClassId) (a0 : Nat) (x1 : Int32) (x2 : Int32) (x3 : Int32) (M : Mem) (K : Int32 → Prop) (h : PX11_byCutter a0 x1 x2 x3 M K) : Met l yX11_byCutter (.code yX11_byCutter cX11_byCutter 5 (some .int) :: gtbl) ({ frames := 1, cells := 0, slots := 0, locals := 25 } : Room) (va_Pc [.ref a0, .int x1, .int x2, .int x3] (xB z D cA M)) (va_Qi (fun r M1 => M1 = M ∧ K r) (xWd z D cA) (xA z)) 0 0 (xA z) := by
  refine x_met (by decide +kernel) (Nat.le_of_ble_eq_true rfl) (L0 := [(0, .ref a0), (1, .int x1), (2, .int x2), (3, .int x3)]) rfl ?_
  intro p e s m args below meth c E hr hlk hnm
  have E : xE RX11 cX11_byCutter 5 D cA p s m args c := E
  replace h := h.2
  refine x_aload_n E dX11_byCutter_0 rfl 0 rfl ?_
  obtain ⟨hT, q1, hv, h⟩ := h
  refine x_get E flX11_7 dX11_byCutter_1 hT hv ?_
  clear hT hv
  refine x_bipush (v := (J 16)) E dX11_byCutter_4 (by decide) ?_
  refine x_iload_n E dX11_byCutter_6 rfl 1 rfl ?_
  refine x_imul E dX11_byCutter_7 ?_
  refine x_bipush (v := (J 10)) E dX11_byCutter_8 (by decide) ?_
  refine x_iadd E dX11_byCutter_10 ?_
  obtain ⟨hT, hi, v2, hv, h⟩ := h
  refine x_iald E dX11_byCutter_11 hT hi hv ?_
  clear hT hi hv
  refine x_aload_n E dX11_byCutter_12 rfl 0 rfl ?_
  obtain ⟨hT, q3, hv, h⟩ := h
  refine x_get E flX11_7 dX11_byCutter_13 hT hv ?_
  clear hT hv
  refine x_bipush (v := (J 16)) E dX11_byCutter_16 (by decide) ?_
  refine x_iload_n E dX11_byCutter_18 rfl 2 rfl ?_
  refine x_imul E dX11_byCutter_19 ?_
  refine x_bipush (v := (J 10)) E dX11_byCutter_20 (by decide) ?_
  refine x_iadd E dX11_byCutter_22 ?_
  obtain ⟨hT, hi, v4, hv, h⟩ := h
  refine x_iald E dX11_byCutter_23 hT hi hv ?_
  clear hT hi hv
  refine x_isub E dX11_byCutter_24 ?_
  obtain ⟨y5, ey5, h⟩ := h
  refine x_top (v := .int y5) (congrArg _ ey5) ?_
  clear ey5
  refine x_istore (L' := [(4, .int y5), (0, .ref a0), (1, .int x1), (2, .int x2), (3, .int x3)]) E dX11_byCutter_25 (by decide) rfl ?_
  refine x_iload E dX11_byCutter_27 0 rfl ?_
  refine x_if_eq (tgt := 35) E dX11_byCutter_29 (by decide) (fun c6 => ?_) (fun c6 => ?_)
  · replace h := xbr_t h c6
    clear c6
    refine x_iload_n E dX11_byCutter_35 rfl 4 rfl ?_
    refine x_iconst (v := (J 2)) E dX11_byCutter_36 (by decide) ?_
    refine x_icmp_ne (tgt := 84) E dX11_byCutter_37 (by decide) (fun c7 => ?_) (fun c7 => ?_)
    · replace h := xbr_f h c7
      clear c7
      refine x_aload_n E dX11_byCutter_84 rfl 1 rfl ?_
      refine x_bipush (v := (J 16)) E dX11_byCutter_85 (by decide) ?_
      refine x_iload_n E dX11_byCutter_87 rfl 2 rfl ?_
      refine x_imul E dX11_byCutter_88 ?_
      refine x_bipush (v := (J 11)) E dX11_byCutter_89 (by decide) ?_
      refine x_iadd E dX11_byCutter_91 ?_
      refine x_aload_n E dX11_byCutter_92 rfl 1 rfl ?_
      obtain ⟨hT, q8, hv, h⟩ := h
      refine x_get E flX11_19 dX11_byCutter_93 hT hv ?_
      clear hT hv
      refine x_iload_n E dX11_byCutter_96 rfl 2 rfl ?_
      obtain ⟨hT, hi, v9, hv, h⟩ := h
      refine x_iald E dX11_byCutter_97 hT hi hv ?_
      clear hT hi hv
      refine x_bipush (v := (J 16)) E dX11_byCutter_98 (by decide) ?_
      refine x_iload_n E dX11_byCutter_100 rfl 3 rfl ?_
      refine x_imul E dX11_byCutter_101 ?_
      refine x_bipush (v := (J 11)) E dX11_byCutter_102 (by decide) ?_
      refine x_iadd E dX11_byCutter_104 ?_
      refine x_aload_n E dX11_byCutter_105 rfl 1 rfl ?_
      obtain ⟨hT, q10, hv, h⟩ := h
      refine x_get E flX11_19 dX11_byCutter_106 hT hv ?_
      clear hT hv
      refine x_iload_n E dX11_byCutter_109 rfl 3 rfl ?_
      obtain ⟨hT, hi, v11, hv, h⟩ := h
      refine x_iald E dX11_byCutter_110 hT hi hv ?_
      clear hT hi hv
      refine x_callVi (T := TX11) (N := 32) (t := 12) (As := [.int (((J 16) * x1) + (J 11)), .int v9, .int (((J 16) * x2) + (J 11)), .int v11]) E mlX11_194 inX11_byFigures seX11_byFigures rfl ⟨by decide, by decide⟩ (tX11_byFigures h) (kX11_byFigures l z D cA a0 (((J 16) * x1) + (J 11)) v9 (((J 16) * x2) + (J 11)) v11 M _ h) rfl ⟨rfl, rfl⟩ ⟨Nat.le_of_ble_eq_true rfl, Nat.le_of_ble_eq_true rfl⟩ ⟨(Nat.le_of_ble_eq_true rfl), (Nat.le_of_ble_eq_true rfl)⟩ (Nat.le_of_ble_eq_true rfl) rfl dX11_byCutter_111 (x_pure (fun r12 h => ?_))
      exact x_iret E hr hlk dX11_byCutter_114 ⟨rfl, h⟩
    · replace h := xbr_t h c7
      clear c7
      refine x_aload_n E dX11_byCutter_40 rfl 1 rfl ?_
      obtain ⟨hT, q14, hv, h⟩ := h
      refine x_get E flX11_7 dX11_byCutter_41 hT hv ?_
      clear hT hv
      refine x_bipush (v := (J 16)) E dX11_byCutter_44 (by decide) ?_
      refine x_iload_n E dX11_byCutter_46 rfl 2 rfl ?_
      refine x_imul E dX11_byCutter_47 ?_
      refine x_bipush (v := (J 11)) E dX11_byCutter_48 (by decide) ?_
      refine x_iadd E dX11_byCutter_50 ?_
      refine x_aload_n E dX11_byCutter_51 rfl 1 rfl ?_
      obtain ⟨hT, q15, hv, h⟩ := h
      refine x_get E flX11_19 dX11_byCutter_52 hT hv ?_
      clear hT hv
      refine x_iload_n E dX11_byCutter_55 rfl 2 rfl ?_
      obtain ⟨hT, hi, v16, hv, h⟩ := h
      refine x_iald E dX11_byCutter_56 hT hi hv ?_
      clear hT hi hv
      refine x_callSi (As := [.ref q14, .int (((J 16) * x1) + (J 11)), .int v16]) E mlX11_170 rfl stX11_whole (kX11_whole l z D cA q14 (((J 16) * x1) + (J 11)) v16 M _ h) rfl ⟨rfl, rfl⟩ ⟨Nat.le_of_ble_eq_true rfl, Nat.le_of_ble_eq_true rfl⟩ ⟨(Nat.le_of_ble_eq_true rfl), (Nat.le_of_ble_eq_true rfl)⟩ (Nat.le_of_ble_eq_true rfl) rfl dX11_byCutter_57 (x_pure (fun r17 h => ?_))
      refine x_aload_n E dX11_byCutter_60 rfl 1 rfl ?_
      obtain ⟨hT, q19, hv, h⟩ := h
      refine x_get E flX11_7 dX11_byCutter_61 hT hv ?_
      clear hT hv
      refine x_bipush (v := (J 16)) E dX11_byCutter_64 (by decide) ?_
      refine x_iload_n E dX11_byCutter_66 rfl 3 rfl ?_
      refine x_imul E dX11_byCutter_67 ?_
      refine x_bipush (v := (J 11)) E dX11_byCutter_68 (by decide) ?_
      refine x_iadd E dX11_byCutter_70 ?_
      refine x_aload_n E dX11_byCutter_71 rfl 1 rfl ?_
      obtain ⟨hT, q20, hv, h⟩ := h
      refine x_get E flX11_19 dX11_byCutter_72 hT hv ?_
      clear hT hv
      refine x_iload_n E dX11_byCutter_75 rfl 3 rfl ?_
      obtain ⟨hT, hi, v21, hv, h⟩ := h
      refine x_iald E dX11_byCutter_76 hT hi hv ?_
      clear hT hi hv
      refine x_callSi (As := [.ref q19, .int (((J 16) * x2) + (J 11)), .int v21]) E mlX11_170 rfl stX11_whole (kX11_whole l z D cA q19 (((J 16) * x2) + (J 11)) v21 M _ h) rfl ⟨rfl, rfl⟩ ⟨Nat.le_of_ble_eq_true rfl, Nat.le_of_ble_eq_true rfl⟩ ⟨(Nat.le_of_ble_eq_true rfl), (Nat.le_of_ble_eq_true rfl)⟩ (Nat.le_of_ble_eq_true rfl) rfl dX11_byCutter_77 (x_pure (fun r22 h => ?_))
      refine x_isub E dX11_byCutter_80 ?_
      refine x_goto (tgt := 114) E dX11_byCutter_81 (by decide) ?_
      exact x_iret E hr hlk dX11_byCutter_114 ⟨rfl, h⟩
  · replace h := xbr_f h c6
    clear c6
    refine x_iload E dX11_byCutter_32 0 rfl ?_
    exact x_iret E hr hlk dX11_byCutter_34 ⟨rfl, h⟩
theorem dX11_isAhead_0 : decode cX11_isAhead 0 = .ok (.aload_n 0, 1) := by decide +kernel
theorem dX11_isAhead_1 : decode cX11_isAhead 1 = .ok (.iload_n 1, 1) := by decide +kernel
theorem dX11_isAhead_2 : decode cX11_isAhead 2 = .ok (.iload_n 2, 1) := by decide +kernel
theorem dX11_isAhead_3 : decode cX11_isAhead 3 = .ok (.iload_n 3, 1) := by decide +kernel
theorem dX11_isAhead_4 : decode cX11_isAhead 4 = .ok (.invokevirtual 198, 3) := by decide +kernel
theorem dX11_isAhead_7 : decode cX11_isAhead 7 = .ok (.istore 4, 2) := by decide +kernel
theorem dX11_isAhead_9 : decode cX11_isAhead 9 = .ok (.iload 4, 2) := by decide +kernel
theorem dX11_isAhead_11 : decode cX11_isAhead 11 = .ok (.ifCond .eq 8, 3) := by decide +kernel
theorem dX11_isAhead_14 : decode cX11_isAhead 14 = .ok (.iload 4, 2) := by decide +kernel
theorem dX11_isAhead_16 : decode cX11_isAhead 16 = .ok (.goto 10, 3) := by decide +kernel
theorem dX11_isAhead_19 : decode cX11_isAhead 19 = .ok (.aload_n 0, 1) := by decide +kernel
theorem dX11_isAhead_20 : decode cX11_isAhead 20 = .ok (.iload_n 1, 1) := by decide +kernel
theorem dX11_isAhead_21 : decode cX11_isAhead 21 = .ok (.iload_n 2, 1) := by decide +kernel
theorem dX11_isAhead_22 : decode cX11_isAhead 22 = .ok (.iload_n 3, 1) := by decide +kernel
theorem dX11_isAhead_23 : decode cX11_isAhead 23 = .ok (.invokevirtual 202, 3) := by decide +kernel
theorem dX11_isAhead_26 : decode cX11_isAhead 26 = .ok (.istore 4, 2) := by decide +kernel
theorem dX11_isAhead_28 : decode cX11_isAhead 28 = .ok (.iload 4, 2) := by decide +kernel
theorem dX11_isAhead_30 : decode cX11_isAhead 30 = .ok (.ifCond .eq 8, 3) := by decide +kernel
theorem dX11_isAhead_33 : decode cX11_isAhead 33 = .ok (.iload 4, 2) := by decide +kernel
theorem dX11_isAhead_35 : decode cX11_isAhead 35 = .ok (.goto 10, 3) := by decide +kernel
theorem dX11_isAhead_38 : decode cX11_isAhead 38 = .ok (.aload_n 0, 1) := by decide +kernel
theorem dX11_isAhead_39 : decode cX11_isAhead 39 = .ok (.iload_n 1, 1) := by decide +kernel
theorem dX11_isAhead_40 : decode cX11_isAhead 40 = .ok (.iload_n 2, 1) := by decide +kernel
theorem dX11_isAhead_41 : decode cX11_isAhead 41 = .ok (.iload_n 3, 1) := by decide +kernel
theorem dX11_isAhead_42 : decode cX11_isAhead 42 = .ok (.invokevirtual 205, 3) := by decide +kernel
theorem dX11_isAhead_45 : decode cX11_isAhead 45 = .ok (.istore 4, 2) := by decide +kernel
theorem dX11_isAhead_47 : decode cX11_isAhead 47 = .ok (.iload 4, 2) := by decide +kernel
theorem dX11_isAhead_49 : decode cX11_isAhead 49 = .ok (.ifCond .eq 8, 3) := by decide +kernel
theorem dX11_isAhead_52 : decode cX11_isAhead 52 = .ok (.iload 4, 2) := by decide +kernel
theorem dX11_isAhead_54 : decode cX11_isAhead 54 = .ok (.goto 10, 3) := by decide +kernel
theorem dX11_isAhead_57 : decode cX11_isAhead 57 = .ok (.aload_n 0, 1) := by decide +kernel
theorem dX11_isAhead_58 : decode cX11_isAhead 58 = .ok (.iload_n 1, 1) := by decide +kernel
theorem dX11_isAhead_59 : decode cX11_isAhead 59 = .ok (.iload_n 2, 1) := by decide +kernel
theorem dX11_isAhead_60 : decode cX11_isAhead 60 = .ok (.iload_n 3, 1) := by decide +kernel
theorem dX11_isAhead_61 : decode cX11_isAhead 61 = .ok (.invokevirtual 208, 3) := by decide +kernel
theorem dX11_isAhead_64 : decode cX11_isAhead 64 = .ok (.istore 4, 2) := by decide +kernel
theorem dX11_isAhead_66 : decode cX11_isAhead 66 = .ok (.iload 4, 2) := by decide +kernel
theorem dX11_isAhead_68 : decode cX11_isAhead 68 = .ok (.ifCond .eq 8, 3) := by decide +kernel
theorem dX11_isAhead_71 : decode cX11_isAhead 71 = .ok (.iload 4, 2) := by decide +kernel
theorem dX11_isAhead_73 : decode cX11_isAhead 73 = .ok (.goto 28, 3) := by decide +kernel
theorem dX11_isAhead_76 : decode cX11_isAhead 76 = .ok (.aload_n 0, 1) := by decide +kernel
theorem dX11_isAhead_77 : decode cX11_isAhead 77 = .ok (.getfield 7, 3) := by decide +kernel
theorem dX11_isAhead_80 : decode cX11_isAhead 80 = .ok (.bipush 16, 2) := by decide +kernel
theorem dX11_isAhead_82 : decode cX11_isAhead 82 = .ok (.iload_n 1, 1) := by decide +kernel
theorem dX11_isAhead_83 : decode cX11_isAhead 83 = .ok (.imul, 1) := by decide +kernel
theorem dX11_isAhead_84 : decode cX11_isAhead 84 = .ok (.bipush 15, 2) := by decide +kernel
theorem dX11_isAhead_86 : decode cX11_isAhead 86 = .ok (.iadd, 1) := by decide +kernel
theorem dX11_isAhead_87 : decode cX11_isAhead 87 = .ok (.iaload, 1) := by decide +kernel
theorem dX11_isAhead_88 : decode cX11_isAhead 88 = .ok (.aload_n 0, 1) := by decide +kernel
theorem dX11_isAhead_89 : decode cX11_isAhead 89 = .ok (.getfield 7, 3) := by decide +kernel
theorem dX11_isAhead_92 : decode cX11_isAhead 92 = .ok (.bipush 16, 2) := by decide +kernel
theorem dX11_isAhead_94 : decode cX11_isAhead 94 = .ok (.iload_n 2, 1) := by decide +kernel
theorem dX11_isAhead_95 : decode cX11_isAhead 95 = .ok (.imul, 1) := by decide +kernel
theorem dX11_isAhead_96 : decode cX11_isAhead 96 = .ok (.bipush 15, 2) := by decide +kernel
theorem dX11_isAhead_98 : decode cX11_isAhead 98 = .ok (.iadd, 1) := by decide +kernel
theorem dX11_isAhead_99 : decode cX11_isAhead 99 = .ok (.iaload, 1) := by decide +kernel
theorem dX11_isAhead_100 : decode cX11_isAhead 100 = .ok (.isub, 1) := by decide +kernel
theorem dX11_isAhead_101 : decode cX11_isAhead 101 = .ok (.istore 4, 2) := by decide +kernel
theorem dX11_isAhead_103 : decode cX11_isAhead 103 = .ok (.iload 4, 2) := by decide +kernel
theorem dX11_isAhead_105 : decode cX11_isAhead 105 = .ok (.ifCond .lt 13, 3) := by decide +kernel
theorem dX11_isAhead_108 : decode cX11_isAhead 108 = .ok (.iload 4, 2) := by decide +kernel
theorem dX11_isAhead_110 : decode cX11_isAhead 110 = .ok (.ifCond .ne 12, 3) := by decide +kernel
theorem dX11_isAhead_113 : decode cX11_isAhead 113 = .ok (.iload_n 1, 1) := by decide +kernel
theorem dX11_isAhead_114 : decode cX11_isAhead 114 = .ok (.iload_n 2, 1) := by decide +kernel
theorem dX11_isAhead_115 : decode cX11_isAhead 115 = .ok (.if_icmp .ge 7, 3) := by decide +kernel
theorem dX11_isAhead_118 : decode cX11_isAhead 118 = .ok (.iconst 1, 1) := by decide +kernel
theorem dX11_isAhead_119 : decode cX11_isAhead 119 = .ok (.goto 4, 3) := by decide +kernel
theorem dX11_isAhead_122 : decode cX11_isAhead 122 = .ok (.iconst 0, 1) := by decide +kernel
theorem dX11_isAhead_123 : decode cX11_isAhead 123 = .ok (.ireturn, 1) := by decide +kernel
set_option maxHeartbeats 4000000 in
set_option maxRecDepth 100000 in
theorem kX11_isAhead (l : Launch) (z : Nat) (D : va_G) (cA : Nat → ClassId) (a0 : Nat) (x1 : Int32) (x2 : Int32) (x3 : Int32) (M : Mem) (K : Int32 → Prop) (h : PX11_isAhead a0 x1 x2 x3 M K) : Met l yX11_isAhead (.code yX11_isAhead cX11_isAhead 5 (some .boolean) :: gtbl) ({ frames := 2, cells := 0, slots := 0, locals := 49 } : Room) (va_Pc [.ref a0, .int x1, .int x2, .int x3] (xB z D cA M)) (va_Qi (fun r M1 => M1 = M ∧ K r) (xWd z D cA) (xA z)) 0 0 (xA z) := by
  refine x_met (by decide +kernel) (Nat.le_of_ble_eq_true rfl) (L0 := [(0, .ref a0), (1, .int x1), (2, .int x2), (3, .int x3)]) rfl ?_
  intro p e s m args below meth c E hr hlk hnm
  have E : xE RX11 cX11_isAhead 5 D cA p s m args c := E
  have hJ101 : ∀ (j1 : Int32) (j2 : Int32) (s0 : Int32), JX11_isAhead_101 K M j1 j2 s0 → xG p l e ({ frames := 2, cells := 0, slots := 0, locals := 49 } : Room) s m args below meth c (MQ below (va_Qi (fun r M1 => M1 = M ∧ K r) (xWd z D cA) (xA z)) args s 0 0 (xA z)) 5 z D cA M (0) (0) 101 [(1, .int j1), (2, .int j2)] [.int s0] := by
    intro j1 j2 s0 h
    refine x_istore (L' := [(4, .int s0), (1, .int j1), (2, .int j2)]) E dX11_isAhead_101 (by decide) rfl ?_
    refine x_iload E dX11_isAhead_103 0 rfl ?_
    refine x_if_lt (tgt := 118) E dX11_isAhead_105 (by decide) (fun c17 => ?_) (fun c17 => ?_)
    · replace h := xbr_t h c17
      clear c17
      refine x_iconst (v := (J 1)) E dX11_isAhead_118 (by decide) ?_
      refine x_goto (tgt := 123) E dX11_isAhead_119 (by decide) ?_
      exact x_zret E hr hlk dX11_isAhead_123 h.1 ⟨rfl, h.2⟩
    · replace h := xbr_f h c17
      clear c17
      refine x_iload E dX11_isAhead_108 0 rfl ?_
      refine x_if_ne (tgt := 122) E dX11_isAhead_110 (by decide) (fun c18 => ?_) (fun c18 => ?_)
      · replace h := xbr_f h c18
        clear c18
        refine x_iconst (v := (J 0)) E dX11_isAhead_122 (by decide) ?_
        exact x_zret E hr hlk dX11_isAhead_123 h.1 ⟨rfl, h.2⟩
      · replace h := xbr_t h c18
        clear c18
        refine x_iload_n E dX11_isAhead_113 rfl 1 rfl ?_
        refine x_iload_n E dX11_isAhead_114 rfl 2 rfl ?_
        refine x_icmp_ge (tgt := 122) E dX11_isAhead_115 (by decide) (fun c19 => ?_) (fun c19 => ?_)
        · replace h := xbr_t h c19
          clear c19
          refine x_iconst (v := (J 0)) E dX11_isAhead_122 (by decide) ?_
          exact x_zret E hr hlk dX11_isAhead_123 h.1 ⟨rfl, h.2⟩
        · replace h := xbr_f h c19
          clear c19
          refine x_iconst (v := (J 1)) E dX11_isAhead_118 (by decide) ?_
          refine x_goto (tgt := 123) E dX11_isAhead_119 (by decide) ?_
          exact x_zret E hr hlk dX11_isAhead_123 h.1 ⟨rfl, h.2⟩
  have hJ64 : ∀ (j0 : Nat) (j1 : Int32) (j2 : Int32) (s0 : Int32), JX11_isAhead_64 K M j0 j1 j2 s0 → xG p l e ({ frames := 2, cells := 0, slots := 0, locals := 49 } : Room) s m args below meth c (MQ below (va_Qi (fun r M1 => M1 = M ∧ K r) (xWd z D cA) (xA z)) args s 0 0 (xA z)) 5 z D cA M (0) (0) 64 [(0, .ref j0), (1, .int j1), (2, .int j2)] [.int s0] := by
    intro j0 j1 j2 s0 h
    refine x_istore (L' := [(4, .int s0), (0, .ref j0), (1, .int j1), (2, .int j2)]) E dX11_isAhead_64 (by decide) rfl ?_
    refine x_iload E dX11_isAhead_66 0 rfl ?_
    refine x_if_eq (tgt := 76) E dX11_isAhead_68 (by decide) (fun c12 => ?_) (fun c12 => ?_)
    · replace h := xbr_t h c12
      clear c12
      refine x_aload_n E dX11_isAhead_76 rfl 1 rfl ?_
      obtain ⟨hT, q13, hv, h⟩ := h
      refine x_get E flX11_7 dX11_isAhead_77 hT hv ?_
      clear hT hv
      refine x_bipush (v := (J 16)) E dX11_isAhead_80 (by decide) ?_
      refine x_iload_n E dX11_isAhead_82 rfl 2 rfl ?_
      refine x_imul E dX11_isAhead_83 ?_
      refine x_bipush (v := (J 15)) E dX11_isAhead_84 (by decide) ?_
      refine x_iadd E dX11_isAhead_86 ?_
      obtain ⟨hT, hi, v14, hv, h⟩ := h
      refine x_iald E dX11_isAhead_87 hT hi hv ?_
      clear hT hi hv
      refine x_aload_n E dX11_isAhead_88 rfl 1 rfl ?_
      obtain ⟨hT, q15, hv, h⟩ := h
      refine x_get E flX11_7 dX11_isAhead_89 hT hv ?_
      clear hT hv
      refine x_bipush (v := (J 16)) E dX11_isAhead_92 (by decide) ?_
      refine x_iload_n E dX11_isAhead_94 rfl 3 rfl ?_
      refine x_imul E dX11_isAhead_95 ?_
      refine x_bipush (v := (J 15)) E dX11_isAhead_96 (by decide) ?_
      refine x_iadd E dX11_isAhead_98 ?_
      obtain ⟨hT, hi, v16, hv, h⟩ := h
      refine x_iald E dX11_isAhead_99 hT hi hv ?_
      clear hT hi hv
      refine x_isub E dX11_isAhead_100 ?_
      refine x_sub (L' := [(1, .int j1), (2, .int j2)]) [2, 3] rfl ?_
      exact hJ101 j1 j2 (v14 - v16) h
    · replace h := xbr_f h c12
      clear c12
      refine x_iload E dX11_isAhead_71 0 rfl ?_
      refine x_goto (tgt := 101) E dX11_isAhead_73 (by decide) ?_
      refine x_sub (L' := [(1, .int j1), (2, .int j2)]) [2, 3] rfl ?_
      exact hJ101 j1 j2 s0 h
  have hJ45 : ∀ (j0 : Nat) (j1 : Int32) (j2 : Int32) (j3 : Int32) (s0 : Int32), JX11_isAhead_45 K M j0 j1 j2 j3 s0 → xG p l e ({ frames := 2, cells := 0, slots := 0, locals := 49 } : Room) s m args below meth c (MQ below (va_Qi (fun r M1 => M1 = M ∧ K r) (xWd z D cA) (xA z)) args s 0 0 (xA z)) 5 z D cA M (0) (0) 45 [(0, .ref j0), (1, .int j1), (2, .int j2), (3, .int j3)] [.int s0] := by
    intro j0 j1 j2 j3 s0 h
    refine x_istore (L' := [(4, .int s0), (0, .ref j0), (1, .int j1), (2, .int j2), (3, .int j3)]) E dX11_isAhead_45 (by decide) rfl ?_
    refine x_iload E dX11_isAhead_47 0 rfl ?_
    refine x_if_eq (tgt := 57) E dX11_isAhead_49 (by decide) (fun c9 => ?_) (fun c9 => ?_)
    · replace h := xbr_t h c9
      clear c9
      refine x_aload_n E dX11_isAhead_57 rfl 1 rfl ?_
      refine x_iload_n E dX11_isAhead_58 rfl 2 rfl ?_
      refine x_iload_n E dX11_isAhead_59 rfl 3 rfl ?_
      refine x_iload_n E dX11_isAhead_60 rfl 4 rfl ?_
      refine x_callVi (T := TX11) (N := 32) (t := 12) (As := [.int j1, .int j2, .int j3]) E mlX11_208 inX11_byCutter seX11_byCutter rfl ⟨by decide, by decide⟩ (tX11_byCutter h) (kX11_byCutter l z D cA j0 j1 j2 j3 M _ h) rfl ⟨rfl, rfl⟩ ⟨Nat.le_of_ble_eq_true rfl, Nat.le_of_ble_eq_true rfl⟩ ⟨(Nat.le_of_ble_eq_true rfl), (Nat.le_of_ble_eq_true rfl)⟩ (Nat.le_of_ble_eq_true rfl) rfl dX11_isAhead_61 (x_pure (fun r10 h => ?_))
      refine x_sub (L' := [(0, .ref j0), (1, .int j1), (2, .int j2)]) [1, 2, 3] rfl ?_
      exact hJ64 j0 j1 j2 r10 h
    · replace h := xbr_f h c9
      clear c9
      refine x_iload E dX11_isAhead_52 0 rfl ?_
      refine x_goto (tgt := 64) E dX11_isAhead_54 (by decide) ?_
      refine x_sub (L' := [(0, .ref j0), (1, .int j1), (2, .int j2)]) [1, 2, 3] rfl ?_
      exact hJ64 j0 j1 j2 s0 h
  have hJ26 : ∀ (j0 : Nat) (j1 : Int32) (j2 : Int32) (j3 : Int32) (s0 : Int32), JX11_isAhead_26 K M j0 j1 j2 j3 s0 → xG p l e ({ frames := 2, cells := 0, slots := 0, locals := 49 } : Room) s m args below meth c (MQ below (va_Qi (fun r M1 => M1 = M ∧ K r) (xWd z D cA) (xA z)) args s 0 0 (xA z)) 5 z D cA M (0) (0) 26 [(0, .ref j0), (1, .int j1), (2, .int j2), (3, .int j3)] [.int s0] := by
    intro j0 j1 j2 j3 s0 h
    refine x_istore (L' := [(4, .int s0), (0, .ref j0), (1, .int j1), (2, .int j2), (3, .int j3)]) E dX11_isAhead_26 (by decide) rfl ?_
    refine x_iload E dX11_isAhead_28 0 rfl ?_
    refine x_if_eq (tgt := 38) E dX11_isAhead_30 (by decide) (fun c6 => ?_) (fun c6 => ?_)
    · replace h := xbr_t h c6
      clear c6
      refine x_aload_n E dX11_isAhead_38 rfl 1 rfl ?_
      refine x_iload_n E dX11_isAhead_39 rfl 2 rfl ?_
      refine x_iload_n E dX11_isAhead_40 rfl 3 rfl ?_
      refine x_iload_n E dX11_isAhead_41 rfl 4 rfl ?_
      refine x_callVi (T := TX11) (N := 32) (t := 12) (As := [.int j1, .int j2, .int j3]) E mlX11_205 inX11_byDecimals seX11_byDecimals rfl ⟨by decide, by decide⟩ (tX11_byDecimals h) (kX11_byDecimals l z D cA j0 j1 j2 j3 M _ h) rfl ⟨rfl, rfl⟩ ⟨Nat.le_of_ble_eq_true rfl, Nat.le_of_ble_eq_true rfl⟩ ⟨(Nat.le_of_ble_eq_true rfl), (Nat.le_of_ble_eq_true rfl)⟩ (Nat.le_of_ble_eq_true rfl) rfl dX11_isAhead_42 (x_pure (fun r7 h => ?_))
      refine x_sub (L' := [(0, .ref j0), (1, .int j1), (2, .int j2), (3, .int j3)]) [1, 2, 3, 4] rfl ?_
      exact hJ45 j0 j1 j2 j3 r7 h
    · replace h := xbr_f h c6
      clear c6
      refine x_iload E dX11_isAhead_33 0 rfl ?_
      refine x_goto (tgt := 45) E dX11_isAhead_35 (by decide) ?_
      refine x_sub (L' := [(0, .ref j0), (1, .int j1), (2, .int j2), (3, .int j3)]) [1, 2, 3, 4] rfl ?_
      exact hJ45 j0 j1 j2 j3 s0 h
  replace h := h.2
  refine x_aload_n E dX11_isAhead_0 rfl 0 rfl ?_
  refine x_iload_n E dX11_isAhead_1 rfl 1 rfl ?_
  refine x_iload_n E dX11_isAhead_2 rfl 2 rfl ?_
  refine x_iload_n E dX11_isAhead_3 rfl 3 rfl ?_
  refine x_callVi (T := TX11) (N := 32) (t := 12) (As := [.int x1, .int x2, .int x3]) E mlX11_198 inX11_byClass seX11_byClass rfl ⟨by decide, by decide⟩ (tX11_byClass h) (kX11_byClass l z D cA a0 x1 x2 x3 M _ h) rfl ⟨rfl, rfl⟩ ⟨Nat.le_of_ble_eq_true rfl, Nat.le_of_ble_eq_true rfl⟩ ⟨(Nat.le_of_ble_eq_true rfl), (Nat.le_of_ble_eq_true rfl)⟩ (Nat.le_of_ble_eq_true rfl) rfl dX11_isAhead_4 (x_pure (fun r1 h => ?_))
  refine x_istore (L' := [(4, .int r1), (0, .ref a0), (1, .int x1), (2, .int x2), (3, .int x3)]) E dX11_isAhead_7 (by decide) rfl ?_
  refine x_iload E dX11_isAhead_9 0 rfl ?_
  refine x_if_eq (tgt := 19) E dX11_isAhead_11 (by decide) (fun c3 => ?_) (fun c3 => ?_)
  · replace h := xbr_t h c3
    clear c3
    refine x_aload_n E dX11_isAhead_19 rfl 1 rfl ?_
    refine x_iload_n E dX11_isAhead_20 rfl 2 rfl ?_
    refine x_iload_n E dX11_isAhead_21 rfl 3 rfl ?_
    refine x_iload_n E dX11_isAhead_22 rfl 4 rfl ?_
    refine x_callVi (T := TX11) (N := 32) (t := 12) (As := [.int x1, .int x2, .int x3]) E mlX11_202 inX11_byNumber seX11_byNumber rfl ⟨by decide, by decide⟩ (tX11_byNumber h) (kX11_byNumber l z D cA a0 x1 x2 x3 M _ h) rfl ⟨rfl, rfl⟩ ⟨Nat.le_of_ble_eq_true rfl, Nat.le_of_ble_eq_true rfl⟩ ⟨(Nat.le_of_ble_eq_true rfl), (Nat.le_of_ble_eq_true rfl)⟩ (Nat.le_of_ble_eq_true rfl) rfl dX11_isAhead_23 (x_pure (fun r4 h => ?_))
    refine x_sub (L' := [(0, .ref a0), (1, .int x1), (2, .int x2), (3, .int x3)]) [1, 2, 3, 4] rfl ?_
    exact hJ26 a0 x1 x2 x3 r4 h
  · replace h := xbr_f h c3
    clear c3
    refine x_iload E dX11_isAhead_14 0 rfl ?_
    refine x_goto (tgt := 26) E dX11_isAhead_16 (by decide) ?_
    refine x_sub (L' := [(0, .ref a0), (1, .int x1), (2, .int x2), (3, .int x3)]) [1, 2, 3, 4] rfl ?_
    exact hJ26 a0 x1 x2 x3 r1 h
