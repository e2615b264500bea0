/-! contracts (by program) -/
theorem dX5_fail_0 : decode cX5_fail 0 = .ok (.aload_n 0, 1) := by decide +kernel
theorem dX5_fail_1 : decode cX5_fail 1 = .ok (.iload_n 1, 1) := by decide +kernel
theorem dX5_fail_2 : decode cX5_fail 2 = .ok (.putfield 33, 3) := by decide +kernel
theorem dX5_fail_5 : decode cX5_fail 5 = .ok (.aload_n 0, 1) := by decide +kernel
theorem dX5_fail_6 : decode cX5_fail 6 = .ok (.iload_n 2, 1) := by decide +kernel
theorem dX5_fail_7 : decode cX5_fail 7 = .ok (.putfield 36, 3) := by decide +kernel
theorem dX5_fail_10 : decode cX5_fail 10 = .ok (.iconst 0, 1) := by decide +kernel
theorem dX5_fail_11 : decode cX5_fail 11 = .ok (.ireturn, 1) := by decide +kernel
set_option maxHeartbeats 4000000 in
set_option maxRecDepth 100000 in
theorem kX5_fail (l : Launch) (z : Nat) (D : va_G) (cA : Nat → ClassId) (a0 : Nat) (x1 : Int32) (x2 : Int32) (M : Mem) (K : Int32 → Mem → Prop) (h : PX5_fail a0 x1 x2 M K) : Met l yX5_fail (.code yX5_fail cX5_fail 3 (some .boolean) :: gtbl) ({ frames := 0, cells := 0, slots := 0, locals := 0 } : Room) (va_Pc [.ref a0, .int x1, .int x2] (xB z D cA M)) (va_Qi K (xWd z D cA) (xA z)) 0 0 (xA z) := by
  refine x_met (by decide +kernel) (Nat.le_of_ble_eq_true rfl) (L0 := [(0, .ref a0), (1, .int x1), (2, .int x2)]) rfl ?_
  intro p e s m args below meth c E hr hlk hnm
  have E : xE RX5 cX5_fail 3 D cA p s m args c := E
  replace h := h.2
  refine x_aload_n E dX5_fail_0 rfl 0 rfl ?_
  refine x_iload_n E dX5_fail_1 rfl 1 rfl ?_
  obtain ⟨hT, h⟩ := h
  refine x_put E flX5_33 ⟨tyX5_ok, nmX5, rfl⟩ (by decide +kernel) rfl rfl dX5_fail_2 hT (fun M1 eM1 => ?_)
  replace h := h M1 eM1
  clear hT eM1
  refine x_aload_n E dX5_fail_5 rfl 0 rfl ?_
  refine x_iload_n E dX5_fail_6 rfl 2 rfl ?_
  obtain ⟨hT, h⟩ := h
  refine x_put E flX5_36 ⟨tyX5_ok, nmX5, rfl⟩ (by decide +kernel) rfl rfl dX5_fail_7 hT (fun M2 eM2 => ?_)
  replace h := h M2 eM2
  clear hT eM2
  refine x_iconst (v := (J 0)) E dX5_fail_10 (by decide) ?_
  exact x_zret E hr hlk dX5_fail_11 h.1 h.2
theorem dX5_takeSign_0 : decode cX5_takeSign 0 = .ok (.aload_n 0, 1) := by decide +kernel
theorem dX5_takeSign_1 : decode cX5_takeSign 1 = .ok (.getfield 9, 3) := by decide +kernel
theorem dX5_takeSign_4 : decode cX5_takeSign 4 = .ok (.aload_n 0, 1) := by decide +kernel
theorem dX5_takeSign_5 : decode cX5_takeSign 5 = .ok (.getfield 29, 3) := by decide +kernel
theorem dX5_takeSign_8 : decode cX5_takeSign 8 = .ok (.invokevirtual 113, 3) := by decide +kernel
theorem dX5_takeSign_11 : decode cX5_takeSign 11 = .ok (.istore_n 1, 1) := by decide +kernel
theorem dX5_takeSign_12 : decode cX5_takeSign 12 = .ok (.aload_n 0, 1) := by decide +kernel
theorem dX5_takeSign_13 : decode cX5_takeSign 13 = .ok (.getfield 25, 3) := by decide +kernel
theorem dX5_takeSign_16 : decode cX5_takeSign 16 = .ok (.getfield 144, 3) := by decide +kernel
theorem dX5_takeSign_19 : decode cX5_takeSign 19 = .ok (.iload_n 1, 1) := by decide +kernel
theorem dX5_takeSign_20 : decode cX5_takeSign 20 = .ok (.invokevirtual 147, 3) := by decide +kernel
theorem dX5_takeSign_23 : decode cX5_takeSign 23 = .ok (.aload_n 0, 1) := by decide +kernel
theorem dX5_takeSign_24 : decode cX5_takeSign 24 = .ok (.dup, 1) := by decide +kernel
theorem dX5_takeSign_25 : decode cX5_takeSign 25 = .ok (.getfield 29, 3) := by decide +kernel
theorem dX5_takeSign_28 : decode cX5_takeSign 28 = .ok (.iconst 1, 1) := by decide +kernel
theorem dX5_takeSign_29 : decode cX5_takeSign 29 = .ok (.iadd, 1) := by decide +kernel
theorem dX5_takeSign_30 : decode cX5_takeSign 30 = .ok (.putfield 29, 3) := by decide +kernel
theorem dX5_takeSign_33 : decode cX5_takeSign 33 = .ok (.iload_n 1, 1) := by decide +kernel
theorem dX5_takeSign_34 : decode cX5_takeSign 34 = .ok (.ireturn, 1) := by decide +kernel
set_option maxHeartbeats 4000000 in
set_option maxRecDepth 100000 in
theorem kX5_takeSign (l : Launch) (z : Nat) (D : va_G) (cA : Nat → ClassId) (a0 : Nat) (M : Mem) (K : Int32 → Mem → Prop) (h : PX5_takeSign a0 M K) : Met l yX5_takeSign (.code yX5_takeSign cX5_takeSign 2 (some .int) :: gtbl) ({ frames := 1, cells := 0, slots := 0, locals := 21 } : Room) (va_Pc [.ref a0] (xB z D cA M)) (va_Qi K (xWd z D cA) (xA z)) 0 0 (xA z) := by
  refine x_met (by decide +kernel) (Nat.le_of_ble_eq_true rfl) (L0 := [(0, .ref a0)]) rfl ?_
  intro p e s m args below meth c E hr hlk hnm
  have E : xE RX5 cX5_takeSign 2 D cA p s m args c := E
  replace h := h.2
  refine x_aload_n E dX5_takeSign_0 rfl 0 rfl ?_
  obtain ⟨hT, q1, hv, h⟩ := h
  refine x_get E flX5_9 dX5_takeSign_1 hT hv ?_
  clear hT hv
  refine x_aload_n E dX5_takeSign_4 rfl 0 rfl ?_
  obtain ⟨hT, v2, hv, h⟩ := h
  refine x_get E flX5_29 dX5_takeSign_5 hT hv ?_
  clear hT hv
  refine x_callVi (T := TX1) (N := 2) (t := 2) (As := [.int v2]) E mlX5_113 inX1_get seX1_get rfl ⟨by decide, by decide⟩ (tX1_get h) (kX1_get l z D cA q1 v2 M _ h) rfl ⟨rfl, rfl⟩ ⟨Nat.le_of_ble_eq_true rfl, Nat.le_of_ble_eq_true rfl⟩ ⟨(Nat.le_of_ble_eq_true rfl), (Nat.le_of_ble_eq_true rfl)⟩ (Nat.le_of_ble_eq_true rfl) rfl dX5_takeSign_8 (x_pure (fun r3 h => ?_))
  refine x_istore_n (L' := [(1, .int r3), (0, .ref a0)]) E dX5_takeSign_11 rfl (by decide) rfl ?_
  refine x_aload_n E dX5_takeSign_12 rfl 1 rfl ?_
  obtain ⟨hT, q5, hv, h⟩ := h
  refine x_get E flX5_25 dX5_takeSign_13 hT hv ?_
  clear hT hv
  obtain ⟨hT, q6, hv, h⟩ := h
  refine x_get E flX5_144 dX5_takeSign_16 hT hv ?_
  clear hT hv
  refine x_iload_n E dX5_takeSign_19 rfl 0 rfl ?_
  refine x_callVv (T := TX1) (N := 2) (t := 2) (As := [.int r3]) E mlX5_147 inX1_append seX1_append rfl ⟨by decide, by decide⟩ (tX1_append h) (kX1_append l z D cA q6 r3 M _ h) rfl ⟨rfl, rfl⟩ ⟨Nat.le_of_ble_eq_true rfl, Nat.le_of_ble_eq_true rfl⟩ ⟨(Nat.le_of_ble_eq_true rfl), (Nat.le_of_ble_eq_true rfl)⟩ (Nat.le_of_ble_eq_true rfl) rfl dX5_takeSign_20 (fun M8 h => ?_)
  refine x_aload_n E dX5_takeSign_23 rfl 1 rfl ?_
  refine x_dup E dX5_takeSign_24 rfl ?_
  obtain ⟨hT, v9, hv, h⟩ := h
  refine x_get E flX5_29 dX5_takeSign_25 hT hv ?_
  clear hT hv
  refine x_iconst (v := (J 1)) E dX5_takeSign_28 (by decide) ?_
  refine x_iadd E dX5_takeSign_29 ?_
  obtain ⟨hT, h⟩ := h
  refine x_put E flX5_29 ⟨tyX5_ok, nmX5, rfl⟩ (by decide +kernel) rfl rfl dX5_takeSign_30 hT (fun M10 eM10 => ?_)
  replace h := h M10 eM10
  clear hT eM10
  refine x_iload_n E dX5_takeSign_33 rfl 0 rfl ?_
  exact x_iret E hr hlk dX5_takeSign_34 h
theorem dX5_takeLetter_0 : decode cX5_takeLetter 0 = .ok (.aload_n 0, 1) := by decide +kernel
theorem dX5_takeLetter_1 : decode cX5_takeLetter 1 = .ok (.invokevirtual 120, 3) := by decide +kernel
theorem dX5_takeLetter_4 : decode cX5_takeLetter 4 = .ok (.bipush 97, 2) := by decide +kernel
theorem dX5_takeLetter_6 : decode cX5_takeLetter 6 = .ok (.isub, 1) := by decide +kernel
theorem dX5_takeLetter_7 : decode cX5_takeLetter 7 = .ok (.iconst 1, 1) := by decide +kernel
theorem dX5_takeLetter_8 : decode cX5_takeLetter 8 = .ok (.iadd, 1) := by decide +kernel
theorem dX5_takeLetter_9 : decode cX5_takeLetter 9 = .ok (.ireturn, 1) := by decide +kernel
set_option maxHeartbeats 4000000 in
set_option maxRecDepth 100000 in
theorem kX5_takeLetter (l : Launch) (z : Nat) (D : va_G) (cA : Nat → ClassId) (a0 : Nat) (M : Mem) (K : Int32 → Mem → Prop) (h : PX5_takeLetter a0 M K) : Met l yX5_takeLetter (.code yX5_takeLetter cX5_takeLetter 1 (some .int) :: gtbl) ({ frames := 2, cells := 0, slots := 0, locals := 42 } : Room) (va_Pc [.ref a0] (xB z D cA M)) (va_Qi K (xWd z D cA) (xA z)) 0 0 (xA z) := by
  refine x_met (by decide +kernel) (Nat.le_of_ble_eq_true rfl) (L0 := [(0, .ref a0)]) rfl ?_
  intro p e s m args below meth c E hr hlk hnm
  have E : xE RX5 cX5_takeLetter 1 D cA p s m args c := E
  replace h := h.2
  refine x_aload_n E dX5_takeLetter_0 rfl 0 rfl ?_
  refine x_callVi (T := TX5) (N := 8) (t := 6) (As := []) E mlX5_120 inX5_takeSign seX5_takeSign rfl ⟨by decide, by decide⟩ (tX5_takeSign h) (kX5_takeSign l z D cA a0 M _ h) rfl ⟨rfl, rfl⟩ ⟨Nat.le_of_ble_eq_true rfl, Nat.le_of_ble_eq_true rfl⟩ ⟨(Nat.le_of_ble_eq_true rfl), (Nat.le_of_ble_eq_true rfl)⟩ (Nat.le_of_ble_eq_true rfl) rfl dX5_takeLetter_1 (fun r1 M2 h => ?_)
  refine x_bipush (v := (J 97)) E dX5_takeLetter_4 (by decide) ?_
  refine x_isub E dX5_takeLetter_6 ?_
  refine x_iconst (v := (J 1)) E dX5_takeLetter_7 (by decide) ?_
  refine x_iadd E dX5_takeLetter_8 ?_
  exact x_iret E hr hlk dX5_takeLetter_9 h
theorem dX5_readClass_0 : decode cX5_readClass 0 = .ok (.aload_n 0, 1) := by decide +kernel
theorem dX5_readClass_1 : decode cX5_readClass 1 = .ok (.invokevirtual 76, 3) := by decide +kernel
theorem dX5_readClass_4 : decode cX5_readClass 4 = .ok (.invokestatic 79, 3) := by decide +kernel
theorem dX5_readClass_7 : decode cX5_readClass 7 = .ok (.ifCond .ne 13, 3) := by decide +kernel
theorem dX5_readClass_10 : decode cX5_readClass 10 = .ok (.aload_n 0, 1) := by decide +kernel
theorem dX5_readClass_11 : decode cX5_readClass 11 = .ok (.iconst 1, 1) := by decide +kernel
theorem dX5_readClass_12 : decode cX5_readClass 12 = .ok (.aload_n 0, 1) := by decide +kernel
theorem dX5_readClass_13 : decode cX5_readClass 13 = .ok (.getfield 29, 3) := by decide +kernel
theorem dX5_readClass_16 : decode cX5_readClass 16 = .ok (.invokevirtual 83, 3) := by decide +kernel
theorem dX5_readClass_19 : decode cX5_readClass 19 = .ok (.ireturn, 1) := by decide +kernel
theorem dX5_readClass_20 : decode cX5_readClass 20 = .ok (.aload_n 0, 1) := by decide +kernel
theorem dX5_readClass_21 : decode cX5_readClass 21 = .ok (.getfield 15, 3) := by decide +kernel
theorem dX5_readClass_24 : decode cX5_readClass 24 = .ok (.invokevirtual 87, 3) := by decide +kernel
theorem dX5_readClass_27 : decode cX5_readClass 27 = .ok (.ifCond .ne 13, 3) := by decide +kernel
theorem dX5_readClass_30 : decode cX5_readClass 30 = .ok (.aload_n 0, 1) := by decide +kernel
theorem dX5_readClass_31 : decode cX5_readClass 31 = .ok (.iconst 4, 1) := by decide +kernel
theorem dX5_readClass_32 : decode cX5_readClass 32 = .ok (.aload_n 0, 1) := by decide +kernel
theorem dX5_readClass_33 : decode cX5_readClass 33 = .ok (.getfield 29, 3) := by decide +kernel
theorem dX5_readClass_36 : decode cX5_readClass 36 = .ok (.invokevirtual 83, 3) := by decide +kernel
theorem dX5_readClass_39 : decode cX5_readClass 39 = .ok (.ireturn, 1) := by decide +kernel
theorem dX5_readClass_40 : decode cX5_readClass 40 = .ok (.aload_n 0, 1) := by decide +kernel
theorem dX5_readClass_41 : decode cX5_readClass 41 = .ok (.aload_n 0, 1) := by decide +kernel
theorem dX5_readClass_42 : decode cX5_readClass 42 = .ok (.getfield 15, 3) := by decide +kernel
theorem dX5_readClass_45 : decode cX5_readClass 45 = .ok (.invokevirtual 19, 3) := by decide +kernel
theorem dX5_readClass_48 : decode cX5_readClass 48 = .ok (.putfield 25, 3) := by decide +kernel
theorem dX5_readClass_51 : decode cX5_readClass 51 = .ok (.aload_n 0, 1) := by decide +kernel
theorem dX5_readClass_52 : decode cX5_readClass 52 = .ok (.getfield 25, 3) := by decide +kernel
theorem dX5_readClass_55 : decode cX5_readClass 55 = .ok (.invokevirtual 90, 3) := by decide +kernel
theorem dX5_readClass_58 : decode cX5_readClass 58 = .ok (.aload_n 0, 1) := by decide +kernel
theorem dX5_readClass_59 : decode cX5_readClass 59 = .ok (.getfield 25, 3) := by decide +kernel
theorem dX5_readClass_62 : decode cX5_readClass 62 = .ok (.aload_n 0, 1) := by decide +kernel
theorem dX5_readClass_63 : decode cX5_readClass 63 = .ok (.invokevirtual 95, 3) := by decide +kernel
theorem dX5_readClass_66 : decode cX5_readClass 66 = .ok (.putfield 98, 3) := by decide +kernel
theorem dX5_readClass_69 : decode cX5_readClass 69 = .ok (.aload_n 0, 1) := by decide +kernel
theorem dX5_readClass_70 : decode cX5_readClass 70 = .ok (.invokevirtual 76, 3) := by decide +kernel
theorem dX5_readClass_73 : decode cX5_readClass 73 = .ok (.invokestatic 79, 3) := by decide +kernel
theorem dX5_readClass_76 : decode cX5_readClass 76 = .ok (.ifCond .ne 5, 3) := by decide +kernel
theorem dX5_readClass_79 : decode cX5_readClass 79 = .ok (.iconst 1, 1) := by decide +kernel
theorem dX5_readClass_80 : decode cX5_readClass 80 = .ok (.ireturn, 1) := by decide +kernel
theorem dX5_readClass_81 : decode cX5_readClass 81 = .ok (.aload_n 0, 1) := by decide +kernel
theorem dX5_readClass_82 : decode cX5_readClass 82 = .ok (.getfield 25, 3) := by decide +kernel
theorem dX5_readClass_85 : decode cX5_readClass 85 = .ok (.aload_n 0, 1) := by decide +kernel
theorem dX5_readClass_86 : decode cX5_readClass 86 = .ok (.invokevirtual 95, 3) := by decide +kernel
theorem dX5_readClass_89 : decode cX5_readClass 89 = .ok (.putfield 101, 3) := by decide +kernel
theorem dX5_readClass_92 : decode cX5_readClass 92 = .ok (.aload_n 0, 1) := by decide +kernel
theorem dX5_readClass_93 : decode cX5_readClass 93 = .ok (.invokevirtual 76, 3) := by decide +kernel
theorem dX5_readClass_96 : decode cX5_readClass 96 = .ok (.invokestatic 79, 3) := by decide +kernel
theorem dX5_readClass_99 : decode cX5_readClass 99 = .ok (.ifCond .eq 15, 3) := by decide +kernel
theorem dX5_readClass_102 : decode cX5_readClass 102 = .ok (.aload_n 0, 1) := by decide +kernel
theorem dX5_readClass_103 : decode cX5_readClass 103 = .ok (.iconst 2, 1) := by decide +kernel
theorem dX5_readClass_104 : decode cX5_readClass 104 = .ok (.aload_n 0, 1) := by decide +kernel
theorem dX5_readClass_105 : decode cX5_readClass 105 = .ok (.getfield 29, 3) := by decide +kernel
theorem dX5_readClass_108 : decode cX5_readClass 108 = .ok (.invokevirtual 83, 3) := by decide +kernel
theorem dX5_readClass_111 : decode cX5_readClass 111 = .ok (.ifCond .eq 7, 3) := by decide +kernel
theorem dX5_readClass_114 : decode cX5_readClass 114 = .ok (.iconst 1, 1) := by decide +kernel
theorem dX5_readClass_115 : decode cX5_readClass 115 = .ok (.goto 4, 3) := by decide +kernel
theorem dX5_readClass_118 : decode cX5_readClass 118 = .ok (.iconst 0, 1) := by decide +kernel
theorem dX5_readClass_119 : decode cX5_readClass 119 = .ok (.ireturn, 1) := by decide +kernel
set_option maxHeartbeats 4000000 in
set_option maxRecDepth 100000 in
theorem kX5_readClass (l : Launch) (z : Nat) (D : va_G) (cA : Nat → ClassId) (a0 : Nat) (M : Mem) (K : Int32 → Mem → Prop) (h : PX5_readClass a0 M K) : Met l yX5_readClass (.code yX5_readClass cX5_readClass 1 (some .boolean) :: gtbl) ({ frames := 3, cells := 0, slots := 0, locals := 62 } : Room) (va_Pc [.ref a0] (xB z D cA M)) (va_Qi K (xWd z D cA) (xA z)) 0 0 (xA z) := by
  refine x_met (by decide +kernel) (Nat.le_of_ble_eq_true rfl) (L0 := [(0, .ref a0)]) rfl ?_
  intro p e s m args below meth c E hr hlk hnm
  have E : xE RX5 cX5_readClass 1 D cA p s m args c := E
  replace h := h.2
  refine x_aload_n E dX5_readClass_0 rfl 0 rfl ?_
  refine x_callVi (T := TX5) (N := 8) (t := 6) (As := []) E mlX5_76 inX5_next seX5_next rfl ⟨by decide, by decide⟩ (tX5_next h) (kX5_next l z D cA a0 M _ h) rfl ⟨rfl, rfl⟩ ⟨Nat.le_of_ble_eq_true rfl, Nat.le_of_ble_eq_true rfl⟩ ⟨(Nat.le_of_ble_eq_true rfl), (Nat.le_of_ble_eq_true rfl)⟩ (Nat.le_of_ble_eq_true rfl) rfl dX5_readClass_1 (x_pure (fun r1 h => ?_))
  refine x_callSi (As := [.int r1]) E mlX5_79 rfl stX5_isLetter (kX5_isLetter l z D cA r1 M _ h) rfl ⟨rfl, rfl⟩ ⟨Nat.le_of_ble_eq_true rfl, Nat.le_of_ble_eq_true rfl⟩ ⟨(Nat.le_of_ble_eq_true rfl), (Nat.le_of_ble_eq_true rfl)⟩ (Nat.le_of_ble_eq_true rfl) rfl dX5_readClass_4 (x_pure (fun r3 h => ?_))
  refine x_if_ne (tgt := 20) E dX5_readClass_7 (by decide) (fun c5 => ?_) (fun c5 => ?_)
  · replace h := xbr_f h c5
    clear c5
    refine x_aload_n E dX5_readClass_20 rfl 0 rfl ?_
    obtain ⟨hT, q6, hv, h⟩ := h
    refine x_get E flX5_15 dX5_readClass_21 hT hv ?_
    clear hT hv
    refine x_callVi (T := TX2) (N := 4) (t := 3) (As := []) E mlX5_87 inX2_hasSpace seX2_hasSpace rfl ⟨by decide, by decide⟩ (tX2_hasSpace h) (kX2_hasSpace l z D cA q6 M _ h) rfl ⟨rfl, rfl⟩ ⟨Nat.le_of_ble_eq_true rfl, Nat.le_of_ble_eq_true rfl⟩ ⟨(Nat.le_of_ble_eq_true rfl), (Nat.le_of_ble_eq_true rfl)⟩ (Nat.le_of_ble_eq_true rfl) rfl dX5_readClass_24 (x_pure (fun r7 h => ?_))
    refine x_if_ne (tgt := 40) E dX5_readClass_27 (by decide) (fun c9 => ?_) (fun c9 => ?_)
    · replace h := xbr_f h c9
      clear c9
      refine x_aload_n E dX5_readClass_40 rfl 0 rfl ?_
      refine x_aload_n E dX5_readClass_41 rfl 0 rfl ?_
      obtain ⟨hT, q10, hv, h⟩ := h
      refine x_get E flX5_15 dX5_readClass_42 hT hv ?_
      clear hT hv
      refine x_callVr (T := TX2) (N := 4) (t := 3) (As := []) E mlX5_19 inX2_draft seX2_draft rfl ⟨by decide, by decide⟩ (tX2_draft h) (kX2_draft l z D cA q10 M _ h) rfl ⟨rfl, rfl⟩ ⟨Nat.le_of_ble_eq_true rfl, Nat.le_of_ble_eq_true rfl⟩ ⟨(Nat.le_of_ble_eq_true rfl), (Nat.le_of_ble_eq_true rfl)⟩ (Nat.le_of_ble_eq_true rfl) rfl dX5_readClass_45 (fun q11 h => ?_)
      obtain ⟨hT, h⟩ := h
      refine x_put E flX5_25 ⟨tyX5_ok, nmX5, rfl⟩ (by decide +kernel) rfl rfl dX5_readClass_48 hT (fun M13 eM13 => ?_)
      replace h := h M13 eM13
      clear hT eM13
      refine x_aload_n E dX5_readClass_51 rfl 0 rfl ?_
      obtain ⟨hT, q14, hv, h⟩ := h
      refine x_get E flX5_25 dX5_readClass_52 hT hv ?_
      clear hT hv
      refine x_callVv (T := TX0) (N := 12) (t := 1) (As := []) E mlX5_90 inX0_clear seX0_clear rfl ⟨by decide, by decide⟩ (tX0_clear h) (kX0_clear l z D cA q14 M13 _ h) rfl ⟨rfl, rfl⟩ ⟨Nat.le_of_ble_eq_true rfl, Nat.le_of_ble_eq_true rfl⟩ ⟨(Nat.le_of_ble_eq_true rfl), (Nat.le_of_ble_eq_true rfl)⟩ (Nat.le_of_ble_eq_true rfl) rfl dX5_readClass_55 (fun M16 h => ?_)
      refine x_aload_n E dX5_readClass_58 rfl 0 rfl ?_
      obtain ⟨hT, q17, hv, h⟩ := h
      refine x_get E flX5_25 dX5_readClass_59 hT hv ?_
      clear hT hv
      refine x_aload_n E dX5_readClass_62 rfl 0 rfl ?_
      refine x_callVi (T := TX5) (N := 8) (t := 6) (As := []) E mlX5_95 inX5_takeLetter seX5_takeLetter rfl ⟨by decide, by decide⟩ (tX5_takeLetter h) (kX5_takeLetter l z D cA a0 M16 _ h) rfl ⟨rfl, rfl⟩ ⟨Nat.le_of_ble_eq_true rfl, Nat.le_of_ble_eq_true rfl⟩ ⟨(Nat.le_of_ble_eq_true rfl), (Nat.le_of_ble_eq_true rfl)⟩ (Nat.le_of_ble_eq_true rfl) rfl dX5_readClass_63 (fun r18 M19 h => ?_)
      obtain ⟨hT, h⟩ := h
      refine x_put E flX5_98 ⟨tyX0_ok, nmX0, rfl⟩ (by decide +kernel) rfl rfl dX5_readClass_66 hT (fun M20 eM20 => ?_)
      replace h := h M20 eM20
      clear hT eM20
      refine x_aload_n E dX5_readClass_69 rfl 0 rfl ?_
      refine x_callVi (T := TX5) (N := 8) (t := 6) (As := []) E mlX5_76 inX5_next seX5_next rfl ⟨by decide, by decide⟩ (tX5_next h) (kX5_next l z D cA a0 M20 _ h) rfl ⟨rfl, rfl⟩ ⟨Nat.le_of_ble_eq_true rfl, Nat.le_of_ble_eq_true rfl⟩ ⟨(Nat.le_of_ble_eq_true rfl), (Nat.le_of_ble_eq_true rfl)⟩ (Nat.le_of_ble_eq_true rfl) rfl dX5_readClass_70 (x_pure (fun r21 h => ?_))
      refine x_callSi (As := [.int r21]) E mlX5_79 rfl stX5_isLetter (kX5_isLetter l z D cA r21 M20 _ h) rfl ⟨rfl, rfl⟩ ⟨Nat.le_of_ble_eq_true rfl, Nat.le_of_ble_eq_true rfl⟩ ⟨(Nat.le_of_ble_eq_true rfl), (Nat.le_of_ble_eq_true rfl)⟩ (Nat.le_of_ble_eq_true rfl) rfl dX5_readClass_73 (x_pure (fun r23 h => ?_))
      refine x_if_ne (tgt := 81) E dX5_readClass_76 (by decide) (fun c25 => ?_) (fun c25 => ?_)
      · replace h := xbr_f h c25
        clear c25
        refine x_aload_n E dX5_readClass_81 rfl 0 rfl ?_
        obtain ⟨hT, q26, hv, h⟩ := h
        refine x_get E flX5_25 dX5_readClass_82 hT hv ?_
        clear hT hv
        refine x_aload_n E dX5_readClass_85 rfl 0 rfl ?_
        refine x_callVi (T := TX5) (N := 8) (t := 6) (As := []) E mlX5_95 inX5_takeLetter seX5_takeLetter rfl ⟨by decide, by decide⟩ (tX5_takeLetter h) (kX5_takeLetter l z D cA a0 M20 _ h) rfl ⟨rfl, rfl⟩ ⟨Nat.le_of_ble_eq_true rfl, Nat.le_of_ble_eq_true rfl⟩ ⟨(Nat.le_of_ble_eq_true rfl), (Nat.le_of_ble_eq_true rfl)⟩ (Nat.le_of_ble_eq_true rfl) rfl dX5_readClass_86 (fun r27 M28 h => ?_)
        obtain ⟨hT, h⟩ := h
        refine x_put E flX5_101 ⟨tyX0_ok, nmX0, rfl⟩ (by decide +kernel) rfl rfl dX5_readClass_89 hT (fun M29 eM29 => ?_)
        replace h := h M29 eM29
        clear hT eM29
        refine x_aload_n E dX5_readClass_92 rfl 0 rfl ?_
        refine x_callVi (T := TX5) (N := 8) (t := 6) (As := []) E mlX5_76 inX5_next seX5_next rfl ⟨by decide, by decide⟩ (tX5_next h) (kX5_next l z D cA a0 M29 _ h) rfl ⟨rfl, rfl⟩ ⟨Nat.le_of_ble_eq_true rfl, Nat.le_of_ble_eq_true rfl⟩ ⟨(Nat.le_of_ble_eq_true rfl), (Nat.le_of_ble_eq_true rfl)⟩ (Nat.le_of_ble_eq_true rfl) rfl dX5_readClass_93 (x_pure (fun r30 h => ?_))
        refine x_callSi (As := [.int r30]) E mlX5_79 rfl stX5_isLetter (kX5_isLetter l z D cA r30 M29 _ h) rfl ⟨rfl, rfl⟩ ⟨Nat.le_of_ble_eq_true rfl, Nat.le_of_ble_eq_true rfl⟩ ⟨(Nat.le_of_ble_eq_true rfl), (Nat.le_of_ble_eq_true rfl)⟩ (Nat.le_of_ble_eq_true rfl) rfl dX5_readClass_96 (x_pure (fun r32 h => ?_))
        refine x_if_eq (tgt := 114) E dX5_readClass_99 (by decide) (fun c34 => ?_) (fun c34 => ?_)
        · replace h := xbr_t h c34
          clear c34
          refine x_iconst (v := (J 1)) E dX5_readClass_114 (by decide) ?_
          refine x_goto (tgt := 119) E dX5_readClass_115 (by decide) ?_
          exact x_zret E hr hlk dX5_readClass_119 h.1 h.2
        · replace h := xbr_f h c34
          clear c34
          refine x_aload_n E dX5_readClass_102 rfl 0 rfl ?_
          refine x_iconst (v := (J 2)) E dX5_readClass_103 (by decide) ?_
          refine x_aload_n E dX5_readClass_104 rfl 0 rfl ?_
          obtain ⟨hT, v35, hv, h⟩ := h
          refine x_get E flX5_29 dX5_readClass_105 hT hv ?_
          clear hT hv
          refine x_callVi (T := TX5) (N := 8) (t := 6) (As := [.int (J 2), .int v35]) E mlX5_83 inX5_fail seX5_fail rfl ⟨by decide, by decide⟩ (tX5_fail h) (kX5_fail l z D cA a0 (J 2) v35 M29 _ h) rfl ⟨rfl, rfl⟩ ⟨Nat.le_of_ble_eq_true rfl, Nat.le_of_ble_eq_true rfl⟩ ⟨(Nat.le_of_ble_eq_true rfl), (Nat.le_of_ble_eq_true rfl)⟩ (Nat.le_of_ble_eq_true rfl) rfl dX5_readClass_108 (fun r36 M37 h => ?_)
          refine x_if_eq (tgt := 118) E dX5_readClass_111 (by decide) (fun c38 => ?_) (fun c38 => ?_)
          · replace h := xbr_t h c38
            clear c38
            refine x_iconst (v := (J 0)) E dX5_readClass_118 (by decide) ?_
            exact x_zret E hr hlk dX5_readClass_119 h.1 h.2
          · replace h := xbr_f h c38
            clear c38
            refine x_iconst (v := (J 1)) E dX5_readClass_114 (by decide) ?_
            refine x_goto (tgt := 119) E dX5_readClass_115 (by decide) ?_
            exact x_zret E hr hlk dX5_readClass_119 h.1 h.2
      · replace h := xbr_t h c25
        clear c25
        refine x_iconst (v := (J 1)) E dX5_readClass_79 (by decide) ?_
        exact x_zret E hr hlk dX5_readClass_80 h.1 h.2
    · replace h := xbr_t h c9
      clear c9
      refine x_aload_n E dX5_readClass_30 rfl 0 rfl ?_
      refine x_iconst (v := (J 4)) E dX5_readClass_31 (by decide) ?_
      refine x_aload_n E dX5_readClass_32 rfl 0 rfl ?_
      obtain ⟨hT, v39, hv, h⟩ := h
      refine x_get E flX5_29 dX5_readClass_33 hT hv ?_
      clear hT hv
      refine x_callVi (T := TX5) (N := 8) (t := 6) (As := [.int (J 4), .int v39]) E mlX5_83 inX5_fail seX5_fail rfl ⟨by decide, by decide⟩ (tX5_fail h) (kX5_fail l z D cA a0 (J 4) v39 M _ h) rfl ⟨rfl, rfl⟩ ⟨Nat.le_of_ble_eq_true rfl, Nat.le_of_ble_eq_true rfl⟩ ⟨(Nat.le_of_ble_eq_true rfl), (Nat.le_of_ble_eq_true rfl)⟩ (Nat.le_of_ble_eq_true rfl) rfl dX5_readClass_36 (fun r40 M41 h => ?_)
      exact x_zret E hr hlk dX5_readClass_39 h.1 h.2
  · replace h := xbr_t h c5
    clear c5
    refine x_aload_n E dX5_readClass_10 rfl 0 rfl ?_
    refine x_iconst (v := (J 1)) E dX5_readClass_11 (by decide) ?_
    refine x_aload_n E dX5_readClass_12 rfl 0 rfl ?_
    obtain ⟨hT, v42, hv, h⟩ := h
    refine x_get E flX5_29 dX5_readClass_13 hT hv ?_
    clear hT hv
    refine x_callVi (T := TX5) (N := 8) (t := 6) (As := [.int (J 1), .int v42]) E mlX5_83 inX5_fail seX5_fail rfl ⟨by decide, by decide⟩ (tX5_fail h) (kX5_fail l z D cA a0 (J 1) v42 M _ h) rfl ⟨rfl, rfl⟩ ⟨Nat.le_of_ble_eq_true rfl, Nat.le_of_ble_eq_true rfl⟩ ⟨(Nat.le_of_ble_eq_true rfl), (Nat.le_of_ble_eq_true rfl)⟩ (Nat.le_of_ble_eq_true rfl) rfl dX5_readClass_16 (fun r43 M44 h => ?_)
    exact x_zret E hr hlk dX5_readClass_19 h.1 h.2
theorem dX5_isFigure_0 : decode cX5_isFigure 0 = .ok (.iload_n 0, 1) := by decide +kernel
theorem dX5_isFigure_1 : decode cX5_isFigure 1 = .ok (.bipush 48, 2) := by decide +kernel
theorem dX5_isFigure_3 : decode cX5_isFigure 3 = .ok (.if_icmp .lt 13, 3) := by decide +kernel
theorem dX5_isFigure_6 : decode cX5_isFigure 6 = .ok (.iload_n 0, 1) := by decide +kernel
theorem dX5_isFigure_7 : decode cX5_isFigure 7 = .ok (.bipush 57, 2) := by decide +kernel
theorem dX5_isFigure_9 : decode cX5_isFigure 9 = .ok (.if_icmp .gt 7, 3) := by decide +kernel
theorem dX5_isFigure_12 : decode cX5_isFigure 12 = .ok (.iconst 1, 1) := by decide +kernel
theorem dX5_isFigure_13 : decode cX5_isFigure 13 = .ok (.goto 4, 3) := by decide +kernel
theorem dX5_isFigure_16 : decode cX5_isFigure 16 = .ok (.iconst 0, 1) := by decide +kernel
theorem dX5_isFigure_17 : decode cX5_isFigure 17 = .ok (.ireturn, 1) := by decide +kernel
set_option maxHeartbeats 4000000 in
set_option maxRecDepth 100000 in
theorem kX5_isFigure (l : Launch) (z : Nat) (D : va_G) (cA : Nat → ClassId) (x0 : Int32) (M : Mem) (K : Int32 → Prop) (h : PX5_isFigure x0 M K) : Met l yX5_isFigure (.code yX5_isFigure cX5_isFigure 1 (some .boolean) :: gtbl) ({ frames := 0, cells := 0, slots := 0, locals := 0 } : Room) (va_Pc [.int x0] (xB z D cA M)) (va_Qi (fun r M1 => M1 = M ∧ K r) (xWd z D cA) (xA z)) 0 0 (xA z) := by
  refine x_met (by decide +kernel) (Nat.le_of_ble_eq_true rfl) (L0 := [(0, .int x0)]) rfl ?_
  intro p e s m args below meth c E hr hlk hnm
  have E : xE RX5 cX5_isFigure 1 D cA p s m args c := E
  refine x_iload_n E dX5_isFigure_0 rfl 0 rfl ?_
  refine x_bipush (v := (J 48)) E dX5_isFigure_1 (by decide) ?_
  refine x_icmp_lt (tgt := 16) E dX5_isFigure_3 (by decide) (fun c1 => ?_) (fun c1 => ?_)
  · replace h := xbr_t h c1
    clear c1
    refine x_iconst (v := (J 0)) E dX5_isFigure_16 (by decide) ?_
    exact x_zret E hr hlk dX5_isFigure_17 h.1 ⟨rfl, h.2⟩
  · replace h := xbr_f h c1
    clear c1
    refine x_iload_n E dX5_isFigure_6 rfl 0 rfl ?_
    refine x_bipush (v := (J 57)) E dX5_isFigure_7 (by decide) ?_
    refine x_icmp_gt (tgt := 16) E dX5_isFigure_9 (by decide) (fun c2 => ?_) (fun c2 => ?_)
    · replace h := xbr_t h c2
      clear c2
      refine x_iconst (v := (J 0)) E dX5_isFigure_16 (by decide) ?_
      exact x_zret E hr hlk dX5_isFigure_17 h.1 ⟨rfl, h.2⟩
    · replace h := xbr_f h c2
      clear c2
      refine x_iconst (v := (J 1)) E dX5_isFigure_12 (by decide) ?_
      refine x_goto (tgt := 17) E dX5_isFigure_13 (by decide) ?_
      exact x_zret E hr hlk dX5_isFigure_17 h.1 ⟨rfl, h.2⟩
theorem dX5_filled_0 : decode cX5_filled 0 = .ok (.iload_n 0, 1) := by decide +kernel
theorem dX5_filled_1 : decode cX5_filled 1 = .ok (.istore_n 2, 1) := by decide +kernel
theorem dX5_filled_2 : decode cX5_filled 2 = .ok (.iload_n 1, 1) := by decide +kernel
theorem dX5_filled_3 : decode cX5_filled 3 = .ok (.istore_n 3, 1) := by decide +kernel
theorem dX5_filled_4 : decode cX5_filled 4 = .ok (.iload_n 3, 1) := by decide +kernel
theorem dX5_filled_5 : decode cX5_filled 5 = .ok (.iconst 4, 1) := by decide +kernel
theorem dX5_filled_6 : decode cX5_filled 6 = .ok (.if_icmp .ge 14, 3) := by decide +kernel
theorem dX5_filled_9 : decode cX5_filled 9 = .ok (.iload_n 2, 1) := by decide +kernel
theorem dX5_filled_10 : decode cX5_filled 10 = .ok (.bipush 10, 2) := by decide +kernel
theorem dX5_filled_12 : decode cX5_filled 12 = .ok (.imul, 1) := by decide +kernel
theorem dX5_filled_13 : decode cX5_filled 13 = .ok (.istore_n 2, 1) := by decide +kernel
theorem dX5_filled_14 : decode cX5_filled 14 = .ok (.iinc 3 1, 3) := by decide +kernel
theorem dX5_filled_17 : decode cX5_filled 17 = .ok (.goto (-13), 3) := by decide +kernel
theorem dX5_filled_20 : decode cX5_filled 20 = .ok (.iload_n 2, 1) := by decide +kernel
theorem dX5_filled_21 : decode cX5_filled 21 = .ok (.iconst 5, 1) := by decide +kernel
theorem dX5_filled_22 : decode cX5_filled 22 = .ok (.imul, 1) := by decide +kernel
theorem dX5_filled_23 : decode cX5_filled 23 = .ok (.iload_n 1, 1) := by decide +kernel
theorem dX5_filled_24 : decode cX5_filled 24 = .ok (.iadd, 1) := by decide +kernel
theorem dX5_filled_25 : decode cX5_filled 25 = .ok (.ireturn, 1) := by decide +kernel
set_option maxHeartbeats 4000000 in
set_option maxRecDepth 100000 in
theorem kX5_filled (l : Launch) (z : Nat) (D : va_G) (cA : Nat → ClassId) (x0 : Int32) (x1 : Int32) (M : Mem) (K : Int32 → Prop) (h : PX5_filled x0 x1 M K) : Met l yX5_filled (.code yX5_filled cX5_filled 4 (some .int) :: gtbl) ({ frames := 0, cells := 0, slots := 0, locals := 0 } : Room) (va_Pc [.int x0, .int x1] (xB z D cA M)) (va_Qi (fun r M1 => M1 = M ∧ K r) (xWd z D cA) (xA z)) 0 0 (xA z) := by
  refine x_met (by decide +kernel) (Nat.le_of_ble_eq_true rfl) (L0 := [(0, .int x0), (1, .int x1)]) rfl ?_
  intro p e s m args below meth c E hr hlk hnm
  have E : xE RX5 cX5_filled 4 D cA p s m args c := E
  refine x_iload_n E dX5_filled_0 rfl 0 rfl ?_
  refine x_istore_n (L' := [(2, .int x0), (0, .int x0), (1, .int x1)]) E dX5_filled_1 rfl (by decide) rfl ?_
  refine x_iload_n E dX5_filled_2 rfl 2 rfl ?_
  refine x_istore_n (L' := [(3, .int x1), (2, .int x0), (0, .int x0), (1, .int x1)]) E dX5_filled_3 rfl (by decide) rfl ?_
  refine x_sub (L' := [(1, .int x1), (2, .int x0), (3, .int x1)]) [3, 1, 0] rfl ?_
  refine lp_sound (T := fun sv => xG p l e ({ frames := 0, cells := 0, slots := 0, locals := 0 } : Room) s m args below meth c (MQ below (va_Qi (fun r M1 => M1 = M ∧ K r) (xWd z D cA) (xA z)) args s 0 0 (xA z)) 4 z D cA M (0) (0) 4 [(1, .int x1), (2, .int sv.1), (3, .int sv.2)] []) ?_ (x0, x1) h
  clear h
  intro kc4 hk4 sv h
  obtain ⟨x2, x3⟩ := sv
  replace h : CX5_filled_4 K M x1 kc4 x2 x3 := h
  try dsimp only
  refine x_iload_n E dX5_filled_4 rfl 2 rfl ?_
  refine x_iconst (v := (J 4)) E dX5_filled_5 (by decide) ?_
  refine x_icmp_ge (tgt := 20) E dX5_filled_6 (by decide) (fun c1 => ?_) (fun c1 => ?_)
  · replace h := xbr_t h c1
    clear c1
    refine x_iload_n E dX5_filled_20 rfl 1 rfl ?_
    refine x_iconst (v := (J 5)) E dX5_filled_21 (by decide) ?_
    refine x_imul E dX5_filled_22 ?_
    refine x_iload_n E dX5_filled_23 rfl 0 rfl ?_
    refine x_iadd E dX5_filled_24 ?_
    exact x_iret E hr hlk dX5_filled_25 ⟨rfl, h⟩
  · replace h := xbr_f h c1
    clear c1
    refine x_iload_n E dX5_filled_9 rfl 1 rfl ?_
    refine x_bipush (v := (J 10)) E dX5_filled_10 (by decide) ?_
    refine x_imul E dX5_filled_12 ?_
    obtain ⟨y2, ey2, h⟩ := h
    refine x_top (v := .int y2) (congrArg _ ey2) ?_
    clear ey2
    refine x_istore_n (L' := [(2, .int y2), (1, .int x1), (3, .int x3)]) E dX5_filled_13 rfl (by decide) rfl ?_
    refine x_iinc (v := (x3 + (J 1))) (L' := [(3, .int (x3 + (J 1))), (2, .int y2), (1, .int x1)]) E dX5_filled_14 2 rfl rfl (by decide) rfl ?_
    refine x_goto (tgt := 4) E dX5_filled_17 (by decide) ?_
    refine x_sub (L' := [(1, .int x1), (2, .int y2), (3, .int (x3 + (J 1)))]) [2, 1, 0] rfl ?_
    exact hk4 (y2, (x3 + (J 1))) h
theorem dX5_readFigures_0 : decode cX5_readFigures 0 = .ok (.aload_n 0, 1) := by decide +kernel
theorem dX5_readFigures_1 : decode cX5_readFigures 1 = .ok (.invokevirtual 76, 3) := by decide +kernel
theorem dX5_readFigures_4 : decode cX5_readFigures 4 = .ok (.invokestatic 117, 3) := by decide +kernel
theorem dX5_readFigures_7 : decode cX5_readFigures 7 = .ok (.ifCond .ne 13, 3) := by decide +kernel
theorem dX5_readFigures_10 : decode cX5_readFigures 10 = .ok (.aload_n 0, 1) := by decide +kernel
theorem dX5_readFigures_11 : decode cX5_readFigures 11 = .ok (.iconst 1, 1) := by decide +kernel
theorem dX5_readFigures_12 : decode cX5_readFigures 12 = .ok (.aload_n 0, 1) := by decide +kernel
theorem dX5_readFigures_13 : decode cX5_readFigures 13 = .ok (.getfield 29, 3) := by decide +kernel
theorem dX5_readFigures_16 : decode cX5_readFigures 16 = .ok (.invokevirtual 83, 3) := by decide +kernel
theorem dX5_readFigures_19 : decode cX5_readFigures 19 = .ok (.ireturn, 1) := by decide +kernel
theorem dX5_readFigures_20 : decode cX5_readFigures 20 = .ok (.aload_n 0, 1) := by decide +kernel
theorem dX5_readFigures_21 : decode cX5_readFigures 21 = .ok (.iconst 0, 1) := by decide +kernel
theorem dX5_readFigures_22 : decode cX5_readFigures 22 = .ok (.putfield 39, 3) := by decide +kernel
theorem dX5_readFigures_25 : decode cX5_readFigures 25 = .ok (.iconst 0, 1) := by decide +kernel
theorem dX5_readFigures_26 : decode cX5_readFigures 26 = .ok (.istore_n 1, 1) := by decide +kernel
theorem dX5_readFigures_27 : decode cX5_readFigures 27 = .ok (.iload_n 1, 1) := by decide +kernel
theorem dX5_readFigures_28 : decode cX5_readFigures 28 = .ok (.iconst 4, 1) := by decide +kernel
theorem dX5_readFigures_29 : decode cX5_readFigures 29 = .ok (.if_icmp .ge 38, 3) := by decide +kernel
theorem dX5_readFigures_32 : decode cX5_readFigures 32 = .ok (.aload_n 0, 1) := by decide +kernel
theorem dX5_readFigures_33 : decode cX5_readFigures 33 = .ok (.invokevirtual 76, 3) := by decide +kernel
theorem dX5_readFigures_36 : decode cX5_readFigures 36 = .ok (.invokestatic 117, 3) := by decide +kernel
theorem dX5_readFigures_39 : decode cX5_readFigures 39 = .ok (.ifCond .eq 28, 3) := by decide +kernel
theorem dX5_readFigures_42 : decode cX5_readFigures 42 = .ok (.aload_n 0, 1) := by decide +kernel
theorem dX5_readFigures_43 : decode cX5_readFigures 43 = .ok (.aload_n 0, 1) := by decide +kernel
theorem dX5_readFigures_44 : decode cX5_readFigures 44 = .ok (.getfield 39, 3) := by decide +kernel
theorem dX5_readFigures_47 : decode cX5_readFigures 47 = .ok (.bipush 10, 2) := by decide +kernel
theorem dX5_readFigures_49 : decode cX5_readFigures 49 = .ok (.imul, 1) := by decide +kernel
theorem dX5_readFigures_50 : decode cX5_readFigures 50 = .ok (.aload_n 0, 1) := by decide +kernel
theorem dX5_readFigures_51 : decode cX5_readFigures 51 = .ok (.invokevirtual 120, 3) := by decide +kernel
theorem dX5_readFigures_54 : decode cX5_readFigures 54 = .ok (.iadd, 1) := by decide +kernel
theorem dX5_readFigures_55 : decode cX5_readFigures 55 = .ok (.bipush 48, 2) := by decide +kernel
theorem dX5_readFigures_57 : decode cX5_readFigures 57 = .ok (.isub, 1) := by decide +kernel
theorem dX5_readFigures_58 : decode cX5_readFigures 58 = .ok (.putfield 39, 3) := by decide +kernel
theorem dX5_readFigures_61 : decode cX5_readFigures 61 = .ok (.iinc 1 1, 3) := by decide +kernel
theorem dX5_readFigures_64 : decode cX5_readFigures 64 = .ok (.goto (-37), 3) := by decide +kernel
theorem dX5_readFigures_67 : decode cX5_readFigures 67 = .ok (.aload_n 0, 1) := by decide +kernel
theorem dX5_readFigures_68 : decode cX5_readFigures 68 = .ok (.aload_n 0, 1) := by decide +kernel
theorem dX5_readFigures_69 : decode cX5_readFigures 69 = .ok (.getfield 39, 3) := by decide +kernel
theorem dX5_readFigures_72 : decode cX5_readFigures 72 = .ok (.iload_n 1, 1) := by decide +kernel
theorem dX5_readFigures_73 : decode cX5_readFigures 73 = .ok (.invokestatic 163, 3) := by decide +kernel
theorem dX5_readFigures_76 : decode cX5_readFigures 76 = .ok (.putfield 42, 3) := by decide +kernel
theorem dX5_readFigures_79 : decode cX5_readFigures 79 = .ok (.aload_n 0, 1) := by decide +kernel
theorem dX5_readFigures_80 : decode cX5_readFigures 80 = .ok (.invokevirtual 76, 3) := by decide +kernel
theorem dX5_readFigures_83 : decode cX5_readFigures 83 = .ok (.invokestatic 117, 3) := by decide +kernel
theorem dX5_readFigures_86 : decode cX5_readFigures 86 = .ok (.ifCond .eq 15, 3) := by decide +kernel
theorem dX5_readFigures_89 : decode cX5_readFigures 89 = .ok (.aload_n 0, 1) := by decide +kernel
theorem dX5_readFigures_90 : decode cX5_readFigures 90 = .ok (.iconst 2, 1) := by decide +kernel
theorem dX5_readFigures_91 : decode cX5_readFigures 91 = .ok (.aload_n 0, 1) := by decide +kernel
theorem dX5_readFigures_92 : decode cX5_readFigures 92 = .ok (.getfield 29, 3) := by decide +kernel
theorem dX5_readFigures_95 : decode cX5_readFigures 95 = .ok (.invokevirtual 83, 3) := by decide +kernel
theorem dX5_readFigures_98 : decode cX5_readFigures 98 = .ok (.ifCond .eq 7, 3) := by decide +kernel
theorem dX5_readFigures_101 : decode cX5_readFigures 101 = .ok (.iconst 1, 1) := by decide +kernel
theorem dX5_readFigures_102 : decode cX5_readFigures 102 = .ok (.goto 4, 3) := by decide +kernel
theorem dX5_readFigures_105 : decode cX5_readFigures 105 = .ok (.iconst 0, 1) := by decide +kernel
theorem dX5_readFigures_106 : decode cX5_readFigures 106 = .ok (.ireturn, 1) := by decide +kernel
set_option maxHeartbeats 4000000 in
set_option maxRecDepth 100000 in
theorem kX5_readFigures (l : Launch) (z : Nat) (D : va_G) (cA : Nat → ClassId) (a0 : Nat) (M : Mem) (K : Int32 → Mem → Prop) (h : PX5_readFigures a0 M K) : Met l yX5_readFigures (.code yX5_readFigures cX5_readFigures 2 (some .boolean) :: gtbl) ({ frames := 2, cells := 0, slots := 0, locals := 42 } : Room) (va_Pc [.ref a0] (xB z D cA M)) (va_Qi K (xWd z D cA) (xA z)) 0 0 (xA z) := by
  refine x_met (by decide +kernel) (Nat.le_of_ble_eq_true rfl) (L0 := [(0, .ref a0)]) rfl ?_
  intro p e s m args below meth c E hr hlk hnm
  have E : xE RX5 cX5_readFigures 2 D cA p s m args c := E
  have hJ67 : ∀ (M : Mem) (j0 : Nat) (j1 : Int32), JX5_readFigures_67 K M j0 j1 → xG p l e ({ frames := 2, cells := 0, slots := 0, locals := 42 } : Room) s m args below meth c (MQ below (va_Qi K (xWd z D cA) (xA z)) args s 0 0 (xA z)) 2 z D cA M (0) (0) 67 [(0, .ref j0), (1, .int j1)] [] := by
    intro M j0 j1 h
    refine x_aload_n E dX5_readFigures_67 rfl 0 rfl ?_
    refine x_aload_n E dX5_readFigures_68 rfl 0 rfl ?_
    obtain ⟨hT, v8, hv, h⟩ := h
    refine x_get E flX5_39 dX5_readFigures_69 hT hv ?_
    clear hT hv
    refine x_iload_n E dX5_readFigures_72 rfl 1 rfl ?_
    refine x_callSi (As := [.int v8, .int j1]) E mlX5_163 rfl stX5_filled (kX5_filled l z D cA v8 j1 M _ h) rfl ⟨rfl, rfl⟩ ⟨Nat.le_of_ble_eq_true rfl, Nat.le_of_ble_eq_true rfl⟩ ⟨(Nat.le_of_ble_eq_true rfl), (Nat.le_of_ble_eq_true rfl)⟩ (Nat.le_of_ble_eq_true rfl) rfl dX5_readFigures_73 (x_pure (fun r9 h => ?_))
    obtain ⟨hT, h⟩ := h
    refine x_put E flX5_42 ⟨tyX5_ok, nmX5, rfl⟩ (by decide +kernel) rfl rfl dX5_readFigures_76 hT (fun M11 eM11 => ?_)
    replace h := h M11 eM11
    clear hT eM11
    refine x_aload_n E dX5_readFigures_79 rfl 0 rfl ?_
    refine x_callVi (T := TX5) (N := 8) (t := 6) (As := []) E mlX5_76 inX5_next seX5_next rfl ⟨by decide, by decide⟩ (tX5_next h) (kX5_next l z D cA j0 M11 _ h) rfl ⟨rfl, rfl⟩ ⟨Nat.le_of_ble_eq_true rfl, Nat.le_of_ble_eq_true rfl⟩ ⟨(Nat.le_of_ble_eq_true rfl), (Nat.le_of_ble_eq_true rfl)⟩ (Nat.le_of_ble_eq_true rfl) rfl dX5_readFigures_80 (x_pure (fun r12 h => ?_))
    refine x_callSi (As := [.int r12]) E mlX5_117 rfl stX5_isFigure (kX5_isFigure l z D cA r12 M11 _ h) rfl ⟨rfl, rfl⟩ ⟨Nat.le_of_ble_eq_true rfl, Nat.le_of_ble_eq_true rfl⟩ ⟨(Nat.le_of_ble_eq_true rfl), (Nat.le_of_ble_eq_true rfl)⟩ (Nat.le_of_ble_eq_true rfl) rfl dX5_readFigures_83 (x_pure (fun r14 h => ?_))
    refine x_if_eq (tgt := 101) E dX5_readFigures_86 (by decide) (fun c16 => ?_) (fun c16 => ?_)
    · replace h := xbr_t h c16
      clear c16
      refine x_iconst (v := (J 1)) E dX5_readFigures_101 (by decide) ?_
      refine x_goto (tgt := 106) E dX5_readFigures_102 (by decide) ?_
      exact x_zret E hr hlk dX5_readFigures_106 h.1 h.2
    · replace h := xbr_f h c16
      clear c16
      refine x_aload_n E dX5_readFigures_89 rfl 0 rfl ?_
      refine x_iconst (v := (J 2)) E dX5_readFigures_90 (by decide) ?_
      refine x_aload_n E dX5_readFigures_91 rfl 0 rfl ?_
      obtain ⟨hT, v17, hv, h⟩ := h
      refine x_get E flX5_29 dX5_readFigures_92 hT hv ?_
      clear hT hv
      refine x_callVi (T := TX5) (N := 8) (t := 6) (As := [.int (J 2), .int v17]) E mlX5_83 inX5_fail seX5_fail rfl ⟨by decide, by decide⟩ (tX5_fail h) (kX5_fail l z D cA j0 (J 2) v17 M11 _ h) rfl ⟨rfl, rfl⟩ ⟨Nat.le_of_ble_eq_true rfl, Nat.le_of_ble_eq_true rfl⟩ ⟨(Nat.le_of_ble_eq_true rfl), (Nat.le_of_ble_eq_true rfl)⟩ (Nat.le_of_ble_eq_true rfl) rfl dX5_readFigures_95 (fun r18 M19 h => ?_)
      refine x_if_eq (tgt := 105) E dX5_readFigures_98 (by decide) (fun c20 => ?_) (fun c20 => ?_)
      · replace h := xbr_t h c20
        clear c20
        refine x_iconst (v := (J 0)) E dX5_readFigures_105 (by decide) ?_
        exact x_zret E hr hlk dX5_readFigures_106 h.1 h.2
      · replace h := xbr_f h c20
        clear c20
        refine x_iconst (v := (J 1)) E dX5_readFigures_101 (by decide) ?_
        refine x_goto (tgt := 106) E dX5_readFigures_102 (by decide) ?_
        exact x_zret E hr hlk dX5_readFigures_106 h.1 h.2
  replace h := h.2
  refine x_aload_n E dX5_readFigures_0 rfl 0 rfl ?_
  refine x_callVi (T := TX5) (N := 8) (t := 6) (As := []) E mlX5_76 inX5_next seX5_next rfl ⟨by decide, by decide⟩ (tX5_next h) (kX5_next l z D cA a0 M _ h) rfl ⟨rfl, rfl⟩ ⟨Nat.le_of_ble_eq_true rfl, Nat.le_of_ble_eq_true rfl⟩ ⟨(Nat.le_of_ble_eq_true rfl), (Nat.le_of_ble_eq_true rfl)⟩ (Nat.le_of_ble_eq_true rfl) rfl dX5_readFigures_1 (x_pure (fun r1 h => ?_))
  refine x_callSi (As := [.int r1]) E mlX5_117 rfl stX5_isFigure (kX5_isFigure l z D cA r1 M _ h) rfl ⟨rfl, rfl⟩ ⟨Nat.le_of_ble_eq_true rfl, Nat.le_of_ble_eq_true rfl⟩ ⟨(Nat.le_of_ble_eq_true rfl), (Nat.le_of_ble_eq_true rfl)⟩ (Nat.le_of_ble_eq_true rfl) rfl dX5_readFigures_4 (x_pure (fun r3 h => ?_))
  refine x_if_ne (tgt := 20) E dX5_readFigures_7 (by decide) (fun c5 => ?_) (fun c5 => ?_)
  · replace h := xbr_f h c5
    clear c5
    refine x_aload_n E dX5_readFigures_20 rfl 0 rfl ?_
    refine x_iconst (v := (J 0)) E dX5_readFigures_21 (by decide) ?_
    obtain ⟨hT, h⟩ := h
    refine x_put E flX5_39 ⟨tyX5_ok, nmX5, rfl⟩ (by decide +kernel) rfl rfl dX5_readFigures_22 hT (fun M6 eM6 => ?_)
    replace h := h M6 eM6
    clear hT eM6
    refine x_iconst (v := (J 0)) E dX5_readFigures_25 (by decide) ?_
    refine x_istore_n (L' := [(1, .int (J 0)), (0, .ref a0)]) E dX5_readFigures_26 rfl (by decide) rfl ?_
    refine x_sub (L' := [(0, .ref a0), (1, .int (J 0))]) [1, 0] rfl ?_
    refine lp_sound (T := fun sv => xG p l e ({ frames := 2, cells := 0, slots := 0, locals := 42 } : Room) s m args below meth c (MQ below (va_Qi K (xWd z D cA) (xA z)) args s 0 0 (xA z)) 2 z D cA sv.1 (0) (0) 27 [(0, .ref a0), (1, .int sv.2)] []) ?_ (M6, (J 0)) h
    clear h
    intro kc27 hk27 sv h
    obtain ⟨M, x1⟩ := sv
    replace h : CX5_readFigures_27 K a0 kc27 M x1 := h
    try dsimp only
    refine x_iload_n E dX5_readFigures_27 rfl 1 rfl ?_
    refine x_iconst (v := (J 4)) E dX5_readFigures_28 (by decide) ?_
    refine x_icmp_ge (tgt := 67) E dX5_readFigures_29 (by decide) (fun c7 => ?_) (fun c7 => ?_)
    · replace h := xbr_t h c7
      clear c7
      exact hJ67 M a0 x1 h
    · replace h := xbr_f h c7
      clear c7
      refine x_aload_n E dX5_readFigures_32 rfl 0 rfl ?_
      refine x_callVi (T := TX5) (N := 8) (t := 6) (As := []) E mlX5_76 inX5_next seX5_next rfl ⟨by decide, by decide⟩ (tX5_next h) (kX5_next l z D cA a0 M _ h) rfl ⟨rfl, rfl⟩ ⟨Nat.le_of_ble_eq_true rfl, Nat.le_of_ble_eq_true rfl⟩ ⟨(Nat.le_of_ble_eq_true rfl), (Nat.le_of_ble_eq_true rfl)⟩ (Nat.le_of_ble_eq_true rfl) rfl dX5_readFigures_33 (x_pure (fun r21 h => ?_))
      refine x_callSi (As := [.int r21]) E mlX5_117 rfl stX5_isFigure (kX5_isFigure l z D cA r21 M _ h) rfl ⟨rfl, rfl⟩ ⟨Nat.le_of_ble_eq_true rfl, Nat.le_of_ble_eq_true rfl⟩ ⟨(Nat.le_of_ble_eq_true rfl), (Nat.le_of_ble_eq_true rfl)⟩ (Nat.le_of_ble_eq_true rfl) rfl dX5_readFigures_36 (x_pure (fun r23 h => ?_))
      refine x_if_eq (tgt := 67) E dX5_readFigures_39 (by decide) (fun c25 => ?_) (fun c25 => ?_)
      · replace h := xbr_t h c25
        clear c25
        exact hJ67 M a0 x1 h
      · replace h := xbr_f h c25
        clear c25
        refine x_aload_n E dX5_readFigures_42 rfl 0 rfl ?_
        refine x_aload_n E dX5_readFigures_43 rfl 0 rfl ?_
        obtain ⟨hT, v26, hv, h⟩ := h
        refine x_get E flX5_39 dX5_readFigures_44 hT hv ?_
        clear hT hv
        refine x_bipush (v := (J 10)) E dX5_readFigures_47 (by decide) ?_
        refine x_imul E dX5_readFigures_49 ?_
        refine x_aload_n E dX5_readFigures_50 rfl 0 rfl ?_
        refine x_callVi (T := TX5) (N := 8) (t := 6) (As := []) E mlX5_120 inX5_takeSign seX5_takeSign rfl ⟨by decide, by decide⟩ (tX5_takeSign h) (kX5_takeSign l z D cA a0 M _ h) rfl ⟨rfl, rfl⟩ ⟨Nat.le_of_ble_eq_true rfl, Nat.le_of_ble_eq_true rfl⟩ ⟨(Nat.le_of_ble_eq_true rfl), (Nat.le_of_ble_eq_true rfl)⟩ (Nat.le_of_ble_eq_true rfl) rfl dX5_readFigures_51 (fun r27 M28 h => ?_)
        refine x_iadd E dX5_readFigures_54 ?_
        refine x_bipush (v := (J 48)) E dX5_readFigures_55 (by decide) ?_
        refine x_isub E dX5_readFigures_57 ?_
        obtain ⟨hT, h⟩ := h
        refine x_put E flX5_39 ⟨tyX5_ok, nmX5, rfl⟩ (by decide +kernel) rfl rfl dX5_readFigures_58 hT (fun M29 eM29 => ?_)
        replace h := h M29 eM29
        clear hT eM29
        refine x_iinc (v := (x1 + (J 1))) (L' := [(1, .int (x1 + (J 1))), (0, .ref a0)]) E dX5_readFigures_61 1 rfl rfl (by decide) rfl ?_
        refine x_goto (tgt := 27) E dX5_readFigures_64 (by decide) ?_
        refine x_sub (L' := [(0, .ref a0), (1, .int (x1 + (J 1)))]) [1, 0] rfl ?_
        exact hk27 (M29, (x1 + (J 1))) h
  · replace h := xbr_t h c5
    clear c5
    refine x_aload_n E dX5_readFigures_10 rfl 0 rfl ?_
    refine x_iconst (v := (J 1)) E dX5_readFigures_11 (by decide) ?_
    refine x_aload_n E dX5_readFigures_12 rfl 0 rfl ?_
    obtain ⟨hT, v30, hv, h⟩ := h
    refine x_get E flX5_29 dX5_readFigures_13 hT hv ?_
    clear hT hv
    refine x_callVi (T := TX5) (N := 8) (t := 6) (As := [.int (J 1), .int v30]) E mlX5_83 inX5_fail seX5_fail rfl ⟨by decide, by decide⟩ (tX5_fail h) (kX5_fail l z D cA a0 (J 1) v30 M _ h) rfl ⟨rfl, rfl⟩ ⟨Nat.le_of_ble_eq_true rfl, Nat.le_of_ble_eq_true rfl⟩ ⟨(Nat.le_of_ble_eq_true rfl), (Nat.le_of_ble_eq_true rfl)⟩ (Nat.le_of_ble_eq_true rfl) rfl dX5_readFigures_16 (fun r31 M32 h => ?_)
    exact x_zret E hr hlk dX5_readFigures_19 h.1 h.2
theorem dX5_readNumber_0 : decode cX5_readNumber 0 = .ok (.aload_n 0, 1) := by decide +kernel
theorem dX5_readNumber_1 : decode cX5_readNumber 1 = .ok (.invokevirtual 76, 3) := by decide +kernel
theorem dX5_readNumber_4 : decode cX5_readNumber 4 = .ok (.bipush 48, 2) := by decide +kernel
theorem dX5_readNumber_6 : decode cX5_readNumber 6 = .ok (.if_icmp .ne 13, 3) := by decide +kernel
theorem dX5_readNumber_9 : decode cX5_readNumber 9 = .ok (.aload_n 0, 1) := by decide +kernel
theorem dX5_readNumber_10 : decode cX5_readNumber 10 = .ok (.iconst 1, 1) := by decide +kernel
theorem dX5_readNumber_11 : decode cX5_readNumber 11 = .ok (.aload_n 0, 1) := by decide +kernel
theorem dX5_readNumber_12 : decode cX5_readNumber 12 = .ok (.getfield 29, 3) := by decide +kernel
theorem dX5_readNumber_15 : decode cX5_readNumber 15 = .ok (.invokevirtual 83, 3) := by decide +kernel
theorem dX5_readNumber_18 : decode cX5_readNumber 18 = .ok (.ireturn, 1) := by decide +kernel
theorem dX5_readNumber_19 : decode cX5_readNumber 19 = .ok (.aload_n 0, 1) := by decide +kernel
theorem dX5_readNumber_20 : decode cX5_readNumber 20 = .ok (.invokevirtual 104, 3) := by decide +kernel
theorem dX5_readNumber_23 : decode cX5_readNumber 23 = .ok (.ifCond .ne 5, 3) := by decide +kernel
theorem dX5_readNumber_26 : decode cX5_readNumber 26 = .ok (.iconst 0, 1) := by decide +kernel
theorem dX5_readNumber_27 : decode cX5_readNumber 27 = .ok (.ireturn, 1) := by decide +kernel
theorem dX5_readNumber_28 : decode cX5_readNumber 28 = .ok (.aload_n 0, 1) := by decide +kernel
theorem dX5_readNumber_29 : decode cX5_readNumber 29 = .ok (.getfield 25, 3) := by decide +kernel
theorem dX5_readNumber_32 : decode cX5_readNumber 32 = .ok (.aload_n 0, 1) := by decide +kernel
theorem dX5_readNumber_33 : decode cX5_readNumber 33 = .ok (.getfield 39, 3) := by decide +kernel
theorem dX5_readNumber_36 : decode cX5_readNumber 36 = .ok (.putfield 107, 3) := by decide +kernel
theorem dX5_readNumber_39 : decode cX5_readNumber 39 = .ok (.aload_n 0, 1) := by decide +kernel
theorem dX5_readNumber_40 : decode cX5_readNumber 40 = .ok (.getfield 25, 3) := by decide +kernel
theorem dX5_readNumber_43 : decode cX5_readNumber 43 = .ok (.aload_n 0, 1) := by decide +kernel
theorem dX5_readNumber_44 : decode cX5_readNumber 44 = .ok (.getfield 42, 3) := by decide +kernel
theorem dX5_readNumber_47 : decode cX5_readNumber 47 = .ok (.putfield 110, 3) := by decide +kernel
theorem dX5_readNumber_50 : decode cX5_readNumber 50 = .ok (.iconst 1, 1) := by decide +kernel
theorem dX5_readNumber_51 : decode cX5_readNumber 51 = .ok (.ireturn, 1) := by decide +kernel
set_option maxHeartbeats 4000000 in
set_option maxRecDepth 100000 in
theorem kX5_readNumber (l : Launch) (z : Nat) (D : va_G) (cA : Nat → ClassId) (a0 : Nat) (M : Mem) (K : Int32 → Mem → Prop) (h : PX5_readNumber a0 M K) : Met l yX5_readNumber (.code yX5_readNumber cX5_readNumber 1 (some .boolean) :: gtbl) ({ frames := 3, cells := 0, slots := 0, locals := 63 } : Room) (va_Pc [.ref a0] (xB z D cA M)) (va_Qi K (xWd z D cA) (xA z)) 0 0 (xA z) := by
  refine x_met (by decide +kernel) (Nat.le_of_ble_eq_true rfl) (L0 := [(0, .ref a0)]) rfl ?_
  intro p e s m args below meth c E hr hlk hnm
  have E : xE RX5 cX5_readNumber 1 D cA p s m args c := E
  replace h := h.2
  refine x_aload_n E dX5_readNumber_0 rfl 0 rfl ?_
  refine x_callVi (T := TX5) (N := 8) (t := 6) (As := []) E mlX5_76 inX5_next seX5_next rfl ⟨by decide, by decide⟩ (tX5_next h) (kX5_next l z D cA a0 M _ h) rfl ⟨rfl, rfl⟩ ⟨Nat.le_of_ble_eq_true rfl, Nat.le_of_ble_eq_true rfl⟩ ⟨(Nat.le_of_ble_eq_true rfl), (Nat.le_of_ble_eq_true rfl)⟩ (Nat.le_of_ble_eq_true rfl) rfl dX5_readNumber_1 (x_pure (fun r1 h => ?_))
  refine x_bipush (v := (J 48)) E dX5_readNumber_4 (by decide) ?_
  refine x_icmp_ne (tgt := 19) E dX5_readNumber_6 (by decide) (fun c3 => ?_) (fun c3 => ?_)
  · replace h := xbr_f h c3
    clear c3
    refine x_aload_n E dX5_readNumber_19 rfl 0 rfl ?_
    refine x_callVi (T := TX5) (N := 8) (t := 6) (As := []) E mlX5_104 inX5_readFigures seX5_readFigures rfl ⟨by decide, by decide⟩ (tX5_readFigures h) (kX5_readFigures l z D cA a0 M _ h) rfl ⟨rfl, rfl⟩ ⟨Nat.le_of_ble_eq_true rfl, Nat.le_of_ble_eq_true rfl⟩ ⟨(Nat.le_of_ble_eq_true rfl), (Nat.le_of_ble_eq_true rfl)⟩ (Nat.le_of_ble_eq_true rfl) rfl dX5_readNumber_20 (fun r4 M5 h => ?_)
    refine x_if_ne (tgt := 28) E dX5_readNumber_23 (by decide) (fun c6 => ?_) (fun c6 => ?_)
    · replace h := xbr_f h c6
      clear c6
      refine x_aload_n E dX5_readNumber_28 rfl 0 rfl ?_
      obtain ⟨hT, q7, hv, h⟩ := h
      refine x_get E flX5_25 dX5_readNumber_29 hT hv ?_
      clear hT hv
      refine x_aload_n E dX5_readNumber_32 rfl 0 rfl ?_
      obtain ⟨hT, v8, hv, h⟩ := h
      refine x_get E flX5_39 dX5_readNumber_33 hT hv ?_
      clear hT hv
      obtain ⟨hT, h⟩ := h
      refine x_put E flX5_107 ⟨tyX0_ok, nmX0, rfl⟩ (by decide +kernel) rfl rfl dX5_readNumber_36 hT (fun M9 eM9 => ?_)
      replace h := h M9 eM9
      clear hT eM9
      refine x_aload_n E dX5_readNumber_39 rfl 0 rfl ?_
      obtain ⟨hT, q10, hv, h⟩ := h
      refine x_get E flX5_25 dX5_readNumber_40 hT hv ?_
      clear hT hv
      refine x_aload_n E dX5_readNumber_43 rfl 0 rfl ?_
      obtain ⟨hT, v11, hv, h⟩ := h
      refine x_get E flX5_42 dX5_readNumber_44 hT hv ?_
      clear hT hv
      obtain ⟨hT, h⟩ := h
      refine x_put E flX5_110 ⟨tyX0_ok, nmX0, rfl⟩ (by decide +kernel) rfl rfl dX5_readNumber_47 hT (fun M12 eM12 => ?_)
      replace h := h M12 eM12
      clear hT eM12
      refine x_iconst (v := (J 1)) E dX5_readNumber_50 (by decide) ?_
      exact x_zret E hr hlk dX5_readNumber_51 h.1 h.2
    · replace h := xbr_t h c6
      clear c6
      refine x_iconst (v := (J 0)) E dX5_readNumber_26 (by decide) ?_
      exact x_zret E hr hlk dX5_readNumber_27 h.1 h.2
  · replace h := xbr_t h c3
    clear c3
    refine x_aload_n E dX5_readNumber_9 rfl 0 rfl ?_
    refine x_iconst (v := (J 1)) E dX5_readNumber_10 (by decide) ?_
    refine x_aload_n E dX5_readNumber_11 rfl 0 rfl ?_
    obtain ⟨hT, v13, hv, h⟩ := h
    refine x_get E flX5_29 dX5_readNumber_12 hT hv ?_
    clear hT hv
    refine x_callVi (T := TX5) (N := 8) (t := 6) (As := [.int (J 1), .int v13]) E mlX5_83 inX5_fail seX5_fail rfl ⟨by decide, by decide⟩ (tX5_fail h) (kX5_fail l z D cA a0 (J 1) v13 M _ h) rfl ⟨rfl, rfl⟩ ⟨Nat.le_of_ble_eq_true rfl, Nat.le_of_ble_eq_true rfl⟩ ⟨(Nat.le_of_ble_eq_true rfl), (Nat.le_of_ble_eq_true rfl)⟩ (Nat.le_of_ble_eq_true rfl) rfl dX5_readNumber_15 (fun r14 M15 h => ?_)
    exact x_zret E hr hlk dX5_readNumber_18 h.1 h.2
theorem dX5_readDecimals_0 : decode cX5_readDecimals 0 = .ok (.aload_n 0, 1) := by decide +kernel
theorem dX5_readDecimals_1 : decode cX5_readDecimals 1 = .ok (.invokevirtual 76, 3) := by decide +kernel
theorem dX5_readDecimals_4 : decode cX5_readDecimals 4 = .ok (.bipush 46, 2) := by decide +kernel
theorem dX5_readDecimals_6 : decode cX5_readDecimals 6 = .ok (.if_icmp .ne 22, 3) := by decide +kernel
theorem dX5_readDecimals_9 : decode cX5_readDecimals 9 = .ok (.aload_n 0, 1) := by decide +kernel
theorem dX5_readDecimals_10 : decode cX5_readDecimals 10 = .ok (.getfield 9, 3) := by decide +kernel
theorem dX5_readDecimals_13 : decode cX5_readDecimals 13 = .ok (.aload_n 0, 1) := by decide +kernel
theorem dX5_readDecimals_14 : decode cX5_readDecimals 14 = .ok (.getfield 29, 3) := by decide +kernel
theorem dX5_readDecimals_17 : decode cX5_readDecimals 17 = .ok (.iconst 1, 1) := by decide +kernel
theorem dX5_readDecimals_18 : decode cX5_readDecimals 18 = .ok (.iadd, 1) := by decide +kernel
theorem dX5_readDecimals_19 : decode cX5_readDecimals 19 = .ok (.invokevirtual 113, 3) := by decide +kernel
theorem dX5_readDecimals_22 : decode cX5_readDecimals 22 = .ok (.invokestatic 117, 3) := by decide +kernel
theorem dX5_readDecimals_25 : decode cX5_readDecimals 25 = .ok (.ifCond .ne 5, 3) := by decide +kernel
theorem dX5_readDecimals_28 : decode cX5_readDecimals 28 = .ok (.iconst 1, 1) := by decide +kernel
theorem dX5_readDecimals_29 : decode cX5_readDecimals 29 = .ok (.ireturn, 1) := by decide +kernel
theorem dX5_readDecimals_30 : decode cX5_readDecimals 30 = .ok (.aload_n 0, 1) := by decide +kernel
theorem dX5_readDecimals_31 : decode cX5_readDecimals 31 = .ok (.invokevirtual 120, 3) := by decide +kernel
theorem dX5_readDecimals_34 : decode cX5_readDecimals 34 = .ok (.pop, 1) := by decide +kernel
theorem dX5_readDecimals_35 : decode cX5_readDecimals 35 = .ok (.aload_n 0, 1) := by decide +kernel
theorem dX5_readDecimals_36 : decode cX5_readDecimals 36 = .ok (.invokevirtual 104, 3) := by decide +kernel
theorem dX5_readDecimals_39 : decode cX5_readDecimals 39 = .ok (.ifCond .ne 5, 3) := by decide +kernel
theorem dX5_readDecimals_42 : decode cX5_readDecimals 42 = .ok (.iconst 0, 1) := by decide +kernel
theorem dX5_readDecimals_43 : decode cX5_readDecimals 43 = .ok (.ireturn, 1) := by decide +kernel
theorem dX5_readDecimals_44 : decode cX5_readDecimals 44 = .ok (.aload_n 0, 1) := by decide +kernel
theorem dX5_readDecimals_45 : decode cX5_readDecimals 45 = .ok (.getfield 25, 3) := by decide +kernel
theorem dX5_readDecimals_48 : decode cX5_readDecimals 48 = .ok (.aload_n 0, 1) := by decide +kernel
theorem dX5_readDecimals_49 : decode cX5_readDecimals 49 = .ok (.getfield 39, 3) := by decide +kernel
theorem dX5_readDecimals_52 : decode cX5_readDecimals 52 = .ok (.putfield 123, 3) := by decide +kernel
theorem dX5_readDecimals_55 : decode cX5_readDecimals 55 = .ok (.aload_n 0, 1) := by decide +kernel
theorem dX5_readDecimals_56 : decode cX5_readDecimals 56 = .ok (.getfield 25, 3) := by decide +kernel
theorem dX5_readDecimals_59 : decode cX5_readDecimals 59 = .ok (.aload_n 0, 1) := by decide +kernel
theorem dX5_readDecimals_60 : decode cX5_readDecimals 60 = .ok (.getfield 42, 3) := by decide +kernel
theorem dX5_readDecimals_63 : decode cX5_readDecimals 63 = .ok (.putfield 126, 3) := by decide +kernel
theorem dX5_readDecimals_66 : decode cX5_readDecimals 66 = .ok (.iconst 1, 1) := by decide +kernel
theorem dX5_readDecimals_67 : decode cX5_readDecimals 67 = .ok (.ireturn, 1) := by decide +kernel
set_option maxHeartbeats 4000000 in
set_option maxRecDepth 100000 in
theorem kX5_readDecimals (l : Launch) (z : Nat) (D : va_G) (cA : Nat → ClassId) (a0 : Nat) (M : Mem) (K : Int32 → Mem → Prop) (h : PX5_readDecimals a0 M K) : Met l yX5_readDecimals (.code yX5_readDecimals cX5_readDecimals 1 (some .boolean) :: gtbl) ({ frames := 3, cells := 0, slots := 0, locals := 63 } : Room) (va_Pc [.ref a0] (xB z D cA M)) (va_Qi K (xWd z D cA) (xA z)) 0 0 (xA z) := by
  refine x_met (by decide +kernel) (Nat.le_of_ble_eq_true rfl) (L0 := [(0, .ref a0)]) rfl ?_
  intro p e s m args below meth c E hr hlk hnm
  have E : xE RX5 cX5_readDecimals 1 D cA p s m args c := E
  replace h := h.2
  refine x_aload_n E dX5_readDecimals_0 rfl 0 rfl ?_
  refine x_callVi (T := TX5) (N := 8) (t := 6) (As := []) E mlX5_76 inX5_next seX5_next rfl ⟨by decide, by decide⟩ (tX5_next h) (kX5_next l z D cA a0 M _ h) rfl ⟨rfl, rfl⟩ ⟨Nat.le_of_ble_eq_true rfl, Nat.le_of_ble_eq_true rfl⟩ ⟨(Nat.le_of_ble_eq_true rfl), (Nat.le_of_ble_eq_true rfl)⟩ (Nat.le_of_ble_eq_true rfl) rfl dX5_readDecimals_1 (x_pure (fun r1 h => ?_))
  refine x_bipush (v := (J 46)) E dX5_readDecimals_4 (by decide) ?_
  refine x_icmp_ne (tgt := 28) E dX5_readDecimals_6 (by decide) (fun c3 => ?_) (fun c3 => ?_)
  · replace h := xbr_f h c3
    clear c3
    refine x_iconst (v := (J 1)) E dX5_readDecimals_28 (by decide) ?_
    exact x_zret E hr hlk dX5_readDecimals_29 h.1 h.2
  · replace h := xbr_t h c3
    clear c3
    refine x_aload_n E dX5_readDecimals_9 rfl 0 rfl ?_
    obtain ⟨hT, q4, hv, h⟩ := h
    refine x_get E flX5_9 dX5_readDecimals_10 hT hv ?_
    clear hT hv
    refine x_aload_n E dX5_readDecimals_13 rfl 0 rfl ?_
    obtain ⟨hT, v5, hv, h⟩ := h
    refine x_get E flX5_29 dX5_readDecimals_14 hT hv ?_
    clear hT hv
    refine x_iconst (v := (J 1)) E dX5_readDecimals_17 (by decide) ?_
    refine x_iadd E dX5_readDecimals_18 ?_
    refine x_callVi (T := TX1) (N := 2) (t := 2) (As := [.int (v5 + (J 1))]) E mlX5_113 inX1_get seX1_get rfl ⟨by decide, by decide⟩ (tX1_get h) (kX1_get l z D cA q4 (v5 + (J 1)) M _ h) rfl ⟨rfl, rfl⟩ ⟨Nat.le_of_ble_eq_true rfl, Nat.le_of_ble_eq_true rfl⟩ ⟨(Nat.le_of_ble_eq_true rfl), (Nat.le_of_ble_eq_true rfl)⟩ (Nat.le_of_ble_eq_true rfl) rfl dX5_readDecimals_19 (x_pure (fun r6 h => ?_))
    refine x_callSi (As := [.int r6]) E mlX5_117 rfl stX5_isFigure (kX5_isFigure l z D cA r6 M _ h) rfl ⟨rfl, rfl⟩ ⟨Nat.le_of_ble_eq_true rfl, Nat.le_of_ble_eq_true rfl⟩ ⟨(Nat.le_of_ble_eq_true rfl), (Nat.le_of_ble_eq_true rfl)⟩ (Nat.le_of_ble_eq_true rfl) rfl dX5_readDecimals_22 (x_pure (fun r8 h => ?_))
    refine x_if_ne (tgt := 30) E dX5_readDecimals_25 (by decide) (fun c10 => ?_) (fun c10 => ?_)
    · replace h := xbr_f h c10
      clear c10
      refine x_aload_n E dX5_readDecimals_30 rfl 0 rfl ?_
      refine x_callVi (T := TX5) (N := 8) (t := 6) (As := []) E mlX5_120 inX5_takeSign seX5_takeSign rfl ⟨by decide, by decide⟩ (tX5_takeSign h) (kX5_takeSign l z D cA a0 M _ h) rfl ⟨rfl, rfl⟩ ⟨Nat.le_of_ble_eq_true rfl, Nat.le_of_ble_eq_true rfl⟩ ⟨(Nat.le_of_ble_eq_true rfl), (Nat.le_of_ble_eq_true rfl)⟩ (Nat.le_of_ble_eq_true rfl) rfl dX5_readDecimals_31 (fun r11 M12 h => ?_)
      refine x_pop E dX5_readDecimals_34 rfl ?_
      refine x_aload_n E dX5_readDecimals_35 rfl 0 rfl ?_
      refine x_callVi (T := TX5) (N := 8) (t := 6) (As := []) E mlX5_104 inX5_readFigures seX5_readFigures rfl ⟨by decide, by decide⟩ (tX5_readFigures h) (kX5_readFigures l z D cA a0 M12 _ h) rfl ⟨rfl, rfl⟩ ⟨Nat.le_of_ble_eq_true rfl, Nat.le_of_ble_eq_true rfl⟩ ⟨(Nat.le_of_ble_eq_true rfl), (Nat.le_of_ble_eq_true rfl)⟩ (Nat.le_of_ble_eq_true rfl) rfl dX5_readDecimals_36 (fun r13 M14 h => ?_)
      refine x_if_ne (tgt := 44) E dX5_readDecimals_39 (by decide) (fun c15 => ?_) (fun c15 => ?_)
      · replace h := xbr_f h c15
        clear c15
        refine x_aload_n E dX5_readDecimals_44 rfl 0 rfl ?_
        obtain ⟨hT, q16, hv, h⟩ := h
        refine x_get E flX5_25 dX5_readDecimals_45 hT hv ?_
        clear hT hv
        refine x_aload_n E dX5_readDecimals_48 rfl 0 rfl ?_
        obtain ⟨hT, v17, hv, h⟩ := h
        refine x_get E flX5_39 dX5_readDecimals_49 hT hv ?_
        clear hT hv
        obtain ⟨hT, h⟩ := h
        refine x_put E flX5_123 ⟨tyX0_ok, nmX0, rfl⟩ (by decide +kernel) rfl rfl dX5_readDecimals_52 hT (fun M18 eM18 => ?_)
        replace h := h M18 eM18
        clear hT eM18
        refine x_aload_n E dX5_readDecimals_55 rfl 0 rfl ?_
        obtain ⟨hT, q19, hv, h⟩ := h
        refine x_get E flX5_25 dX5_readDecimals_56 hT hv ?_
        clear hT hv
        refine x_aload_n E dX5_readDecimals_59 rfl 0 rfl ?_
        obtain ⟨hT, v20, hv, h⟩ := h
        refine x_get E flX5_42 dX5_readDecimals_60 hT hv ?_
        clear hT hv
        obtain ⟨hT, h⟩ := h
        refine x_put E flX5_126 ⟨tyX0_ok, nmX0, rfl⟩ (by decide +kernel) rfl rfl dX5_readDecimals_63 hT (fun M21 eM21 => ?_)
        replace h := h M21 eM21
        clear hT eM21
        refine x_iconst (v := (J 1)) E dX5_readDecimals_66 (by decide) ?_
        exact x_zret E hr hlk dX5_readDecimals_67 h.1 h.2
      · replace h := xbr_t h c15
        clear c15
        refine x_iconst (v := (J 0)) E dX5_readDecimals_42 (by decide) ?_
        exact x_zret E hr hlk dX5_readDecimals_43 h.1 h.2
    · replace h := xbr_t h c10
      clear c10
      refine x_iconst (v := (J 1)) E dX5_readDecimals_28 (by decide) ?_
      exact x_zret E hr hlk dX5_readDecimals_29 h.1 h.2
theorem dX5_readCutter_0 : decode cX5_readCutter 0 = .ok (.aload_n 0, 1) := by decide +kernel
theorem dX5_readCutter_1 : decode cX5_readCutter 1 = .ok (.invokevirtual 76, 3) := by decide +kernel
theorem dX5_readCutter_4 : decode cX5_readCutter 4 = .ok (.bipush 46, 2) := by decide +kernel
theorem dX5_readCutter_6 : decode cX5_readCutter 6 = .ok (.if_icmp .eq 5, 3) := by decide +kernel
theorem dX5_readCutter_9 : decode cX5_readCutter 9 = .ok (.iconst 1, 1) := by decide +kernel
theorem dX5_readCutter_10 : decode cX5_readCutter 10 = .ok (.ireturn, 1) := by decide +kernel
theorem dX5_readCutter_11 : decode cX5_readCutter 11 = .ok (.aload_n 0, 1) := by decide +kernel
theorem dX5_readCutter_12 : decode cX5_readCutter 12 = .ok (.invokevirtual 120, 3) := by decide +kernel
theorem dX5_readCutter_15 : decode cX5_readCutter 15 = .ok (.pop, 1) := by decide +kernel
theorem dX5_readCutter_16 : decode cX5_readCutter 16 = .ok (.aload_n 0, 1) := by decide +kernel
theorem dX5_readCutter_17 : decode cX5_readCutter 17 = .ok (.invokevirtual 76, 3) := by decide +kernel
theorem dX5_readCutter_20 : decode cX5_readCutter 20 = .ok (.invokestatic 79, 3) := by decide +kernel
theorem dX5_readCutter_23 : decode cX5_readCutter 23 = .ok (.ifCond .ne 13, 3) := by decide +kernel
theorem dX5_readCutter_26 : decode cX5_readCutter 26 = .ok (.aload_n 0, 1) := by decide +kernel
theorem dX5_readCutter_27 : decode cX5_readCutter 27 = .ok (.iconst 1, 1) := by decide +kernel
theorem dX5_readCutter_28 : decode cX5_readCutter 28 = .ok (.aload_n 0, 1) := by decide +kernel
theorem dX5_readCutter_29 : decode cX5_readCutter 29 = .ok (.getfield 29, 3) := by decide +kernel
theorem dX5_readCutter_32 : decode cX5_readCutter 32 = .ok (.invokevirtual 83, 3) := by decide +kernel
theorem dX5_readCutter_35 : decode cX5_readCutter 35 = .ok (.ireturn, 1) := by decide +kernel
theorem dX5_readCutter_36 : decode cX5_readCutter 36 = .ok (.aload_n 0, 1) := by decide +kernel
theorem dX5_readCutter_37 : decode cX5_readCutter 37 = .ok (.getfield 25, 3) := by decide +kernel
theorem dX5_readCutter_40 : decode cX5_readCutter 40 = .ok (.aload_n 0, 1) := by decide +kernel
theorem dX5_readCutter_41 : decode cX5_readCutter 41 = .ok (.invokevirtual 95, 3) := by decide +kernel
theorem dX5_readCutter_44 : decode cX5_readCutter 44 = .ok (.putfield 129, 3) := by decide +kernel
theorem dX5_readCutter_47 : decode cX5_readCutter 47 = .ok (.aload_n 0, 1) := by decide +kernel
theorem dX5_readCutter_48 : decode cX5_readCutter 48 = .ok (.invokevirtual 104, 3) := by decide +kernel
theorem dX5_readCutter_51 : decode cX5_readCutter 51 = .ok (.ifCond .ne 5, 3) := by decide +kernel
theorem dX5_readCutter_54 : decode cX5_readCutter 54 = .ok (.iconst 0, 1) := by decide +kernel
theorem dX5_readCutter_55 : decode cX5_readCutter 55 = .ok (.ireturn, 1) := by decide +kernel
theorem dX5_readCutter_56 : decode cX5_readCutter 56 = .ok (.aload_n 0, 1) := by decide +kernel
theorem dX5_readCutter_57 : decode cX5_readCutter 57 = .ok (.getfield 25, 3) := by decide +kernel
theorem dX5_readCutter_60 : decode cX5_readCutter 60 = .ok (.aload_n 0, 1) := by decide +kernel
theorem dX5_readCutter_61 : decode cX5_readCutter 61 = .ok (.getfield 39, 3) := by decide +kernel
theorem dX5_readCutter_64 : decode cX5_readCutter 64 = .ok (.putfield 132, 3) := by decide +kernel
theorem dX5_readCutter_67 : decode cX5_readCutter 67 = .ok (.aload_n 0, 1) := by decide +kernel
theorem dX5_readCutter_68 : decode cX5_readCutter 68 = .ok (.getfield 25, 3) := by decide +kernel
theorem dX5_readCutter_71 : decode cX5_readCutter 71 = .ok (.aload_n 0, 1) := by decide +kernel
theorem dX5_readCutter_72 : decode cX5_readCutter 72 = .ok (.getfield 42, 3) := by decide +kernel
theorem dX5_readCutter_75 : decode cX5_readCutter 75 = .ok (.putfield 135, 3) := by decide +kernel
theorem dX5_readCutter_78 : decode cX5_readCutter 78 = .ok (.iconst 1, 1) := by decide +kernel
theorem dX5_readCutter_79 : decode cX5_readCutter 79 = .ok (.ireturn, 1) := by decide +kernel
set_option maxHeartbeats 4000000 in
set_option maxRecDepth 100000 in
theorem kX5_readCutter (l : Launch) (z : Nat) (D : va_G) (cA : Nat → ClassId) (a0 : Nat) (M : Mem) (K : Int32 → Mem → Prop) (h : PX5_readCutter a0 M K) : Met l yX5_readCutter (.code yX5_readCutter cX5_readCutter 1 (some .boolean) :: gtbl) ({ frames := 3, cells := 0, slots := 0, locals := 63 } : Room) (va_Pc [.ref a0] (xB z D cA M)) (va_Qi K (xWd z D cA) (xA z)) 0 0 (xA z) := by
  refine x_met (by decide +kernel) (Nat.le_of_ble_eq_true rfl) (L0 := [(0, .ref a0)]) rfl ?_
  intro p e s m args below meth c E hr hlk hnm
  have E : xE RX5 cX5_readCutter 1 D cA p s m args c := E
  replace h := h.2
  refine x_aload_n E dX5_readCutter_0 rfl 0 rfl ?_
  refine x_callVi (T := TX5) (N := 8) (t := 6) (As := []) E mlX5_76 inX5_next seX5_next rfl ⟨by decide, by decide⟩ (tX5_next h) (kX5_next l z D cA a0 M _ h) rfl ⟨rfl, rfl⟩ ⟨Nat.le_of_ble_eq_true rfl, Nat.le_of_ble_eq_true rfl⟩ ⟨(Nat.le_of_ble_eq_true rfl), (Nat.le_of_ble_eq_true rfl)⟩ (Nat.le_of_ble_eq_true rfl) rfl dX5_readCutter_1 (x_pure (fun r1 h => ?_))
  refine x_bipush (v := (J 46)) E dX5_readCutter_4 (by decide) ?_
  refine x_icmp_eq (tgt := 11) E dX5_readCutter_6 (by decide) (fun c3 => ?_) (fun c3 => ?_)
  · replace h := xbr_t h c3
    clear c3
    refine x_aload_n E dX5_readCutter_11 rfl 0 rfl ?_
    refine x_callVi (T := TX5) (N := 8) (t := 6) (As := []) E mlX5_120 inX5_takeSign seX5_takeSign rfl ⟨by decide, by decide⟩ (tX5_takeSign h) (kX5_takeSign l z D cA a0 M _ h) rfl ⟨rfl, rfl⟩ ⟨Nat.le_of_ble_eq_true rfl, Nat.le_of_ble_eq_true rfl⟩ ⟨(Nat.le_of_ble_eq_true rfl), (Nat.le_of_ble_eq_true rfl)⟩ (Nat.le_of_ble_eq_true rfl) rfl dX5_readCutter_12 (fun r4 M5 h => ?_)
    refine x_pop E dX5_readCutter_15 rfl ?_
    refine x_aload_n E dX5_readCutter_16 rfl 0 rfl ?_
    refine x_callVi (T := TX5) (N := 8) (t := 6) (As := []) E mlX5_76 inX5_next seX5_next rfl ⟨by decide, by decide⟩ (tX5_next h) (kX5_next l z D cA a0 M5 _ h) rfl ⟨rfl, rfl⟩ ⟨Nat.le_of_ble_eq_true rfl, Nat.le_of_ble_eq_true rfl⟩ ⟨(Nat.le_of_ble_eq_true rfl), (Nat.le_of_ble_eq_true rfl)⟩ (Nat.le_of_ble_eq_true rfl) rfl dX5_readCutter_17 (x_pure (fun r6 h => ?_))
    refine x_callSi (As := [.int r6]) E mlX5_79 rfl stX5_isLetter (kX5_isLetter l z D cA r6 M5 _ h) rfl ⟨rfl, rfl⟩ ⟨Nat.le_of_ble_eq_true rfl, Nat.le_of_ble_eq_true rfl⟩ ⟨(Nat.le_of_ble_eq_true rfl), (Nat.le_of_ble_eq_true rfl)⟩ (Nat.le_of_ble_eq_true rfl) rfl dX5_readCutter_20 (x_pure (fun r8 h => ?_))
    refine x_if_ne (tgt := 36) E dX5_readCutter_23 (by decide) (fun c10 => ?_) (fun c10 => ?_)
    · replace h := xbr_f h c10
      clear c10
      refine x_aload_n E dX5_readCutter_36 rfl 0 rfl ?_
      obtain ⟨hT, q11, hv, h⟩ := h
      refine x_get E flX5_25 dX5_readCutter_37 hT hv ?_
      clear hT hv
      refine x_aload_n E dX5_readCutter_40 rfl 0 rfl ?_
      refine x_callVi (T := TX5) (N := 8) (t := 6) (As := []) E mlX5_95 inX5_takeLetter seX5_takeLetter rfl ⟨by decide, by decide⟩ (tX5_takeLetter h) (kX5_takeLetter l z D cA a0 M5 _ h) rfl ⟨rfl, rfl⟩ ⟨Nat.le_of_ble_eq_true rfl, Nat.le_of_ble_eq_true rfl⟩ ⟨(Nat.le_of_ble_eq_true rfl), (Nat.le_of_ble_eq_true rfl)⟩ (Nat.le_of_ble_eq_true rfl) rfl dX5_readCutter_41 (fun r12 M13 h => ?_)
      obtain ⟨hT, h⟩ := h
      refine x_put E flX5_129 ⟨tyX0_ok, nmX0, rfl⟩ (by decide +kernel) rfl rfl dX5_readCutter_44 hT (fun M14 eM14 => ?_)
      replace h := h M14 eM14
      clear hT eM14
      refine x_aload_n E dX5_readCutter_47 rfl 0 rfl ?_
      refine x_callVi (T := TX5) (N := 8) (t := 6) (As := []) E mlX5_104 inX5_readFigures seX5_readFigures rfl ⟨by decide, by decide⟩ (tX5_readFigures h) (kX5_readFigures l z D cA a0 M14 _ h) rfl ⟨rfl, rfl⟩ ⟨Nat.le_of_ble_eq_true rfl, Nat.le_of_ble_eq_true rfl⟩ ⟨(Nat.le_of_ble_eq_true rfl), (Nat.le_of_ble_eq_true rfl)⟩ (Nat.le_of_ble_eq_true rfl) rfl dX5_readCutter_48 (fun r15 M16 h => ?_)
      refine x_if_ne (tgt := 56) E dX5_readCutter_51 (by decide) (fun c17 => ?_) (fun c17 => ?_)
      · replace h := xbr_f h c17
        clear c17
        refine x_aload_n E dX5_readCutter_56 rfl 0 rfl ?_
        obtain ⟨hT, q18, hv, h⟩ := h
        refine x_get E flX5_25 dX5_readCutter_57 hT hv ?_
        clear hT hv
        refine x_aload_n E dX5_readCutter_60 rfl 0 rfl ?_
        obtain ⟨hT, v19, hv, h⟩ := h
        refine x_get E flX5_39 dX5_readCutter_61 hT hv ?_
        clear hT hv
        obtain ⟨hT, h⟩ := h
        refine x_put E flX5_132 ⟨tyX0_ok, nmX0, rfl⟩ (by decide +kernel) rfl rfl dX5_readCutter_64 hT (fun M20 eM20 => ?_)
        replace h := h M20 eM20
        clear hT eM20
        refine x_aload_n E dX5_readCutter_67 rfl 0 rfl ?_
        obtain ⟨hT, q21, hv, h⟩ := h
        refine x_get E flX5_25 dX5_readCutter_68 hT hv ?_
        clear hT hv
        refine x_aload_n E dX5_readCutter_71 rfl 0 rfl ?_
        obtain ⟨hT, v22, hv, h⟩ := h
        refine x_get E flX5_42 dX5_readCutter_72 hT hv ?_
        clear hT hv
        obtain ⟨hT, h⟩ := h
        refine x_put E flX5_135 ⟨tyX0_ok, nmX0, rfl⟩ (by decide +kernel) rfl rfl dX5_readCutter_75 hT (fun M23 eM23 => ?_)
        replace h := h M23 eM23
        clear hT eM23
        refine x_iconst (v := (J 1)) E dX5_readCutter_78 (by decide) ?_
        exact x_zret E hr hlk dX5_readCutter_79 h.1 h.2
      · replace h := xbr_t h c17
        clear c17
        refine x_iconst (v := (J 0)) E dX5_readCutter_54 (by decide) ?_
        exact x_zret E hr hlk dX5_readCutter_55 h.1 h.2
    · replace h := xbr_t h c10
      clear c10
      refine x_aload_n E dX5_readCutter_26 rfl 0 rfl ?_
      refine x_iconst (v := (J 1)) E dX5_readCutter_27 (by decide) ?_
      refine x_aload_n E dX5_readCutter_28 rfl 0 rfl ?_
      obtain ⟨hT, v24, hv, h⟩ := h
      refine x_get E flX5_29 dX5_readCutter_29 hT hv ?_
      clear hT hv
      refine x_callVi (T := TX5) (N := 8) (t := 6) (As := [.int (J 1), .int v24]) E mlX5_83 inX5_fail seX5_fail rfl ⟨by decide, by decide⟩ (tX5_fail h) (kX5_fail l z D cA a0 (J 1) v24 M5 _ h) rfl ⟨rfl, rfl⟩ ⟨Nat.le_of_ble_eq_true rfl, Nat.le_of_ble_eq_true rfl⟩ ⟨(Nat.le_of_ble_eq_true rfl), (Nat.le_of_ble_eq_true rfl)⟩ (Nat.le_of_ble_eq_true rfl) rfl dX5_readCutter_32 (fun r25 M26 h => ?_)
      exact x_zret E hr hlk dX5_readCutter_35 h.1 h.2
  · replace h := xbr_f h c3
    clear c3
    refine x_iconst (v := (J 1)) E dX5_readCutter_9 (by decide) ?_
    exact x_zret E hr hlk dX5_readCutter_10 h.1 h.2
theorem dX5_readYear_0 : decode cX5_readYear 0 = .ok (.aload_n 0, 1) := by decide +kernel
theorem dX5_readYear_1 : decode cX5_readYear 1 = .ok (.getfield 25, 3) := by decide +kernel
theorem dX5_readYear_4 : decode cX5_readYear 4 = .ok (.getfield 144, 3) := by decide +kernel
theorem dX5_readYear_7 : decode cX5_readYear 7 = .ok (.bipush 32, 2) := by decide +kernel
theorem dX5_readYear_9 : decode cX5_readYear 9 = .ok (.invokevirtual 147, 3) := by decide +kernel
theorem dX5_readYear_12 : decode cX5_readYear 12 = .ok (.aload_n 0, 1) := by decide +kernel
theorem dX5_readYear_13 : decode cX5_readYear 13 = .ok (.invokevirtual 120, 3) := by decide +kernel
theorem dX5_readYear_16 : decode cX5_readYear 16 = .ok (.pop, 1) := by decide +kernel
theorem dX5_readYear_17 : decode cX5_readYear 17 = .ok (.aload_n 0, 1) := by decide +kernel
theorem dX5_readYear_18 : decode cX5_readYear 18 = .ok (.getfield 29, 3) := by decide +kernel
theorem dX5_readYear_21 : decode cX5_readYear 21 = .ok (.istore_n 1, 1) := by decide +kernel
theorem dX5_readYear_22 : decode cX5_readYear 22 = .ok (.aload_n 0, 1) := by decide +kernel
theorem dX5_readYear_23 : decode cX5_readYear 23 = .ok (.iconst 0, 1) := by decide +kernel
theorem dX5_readYear_24 : decode cX5_readYear 24 = .ok (.putfield 39, 3) := by decide +kernel
theorem dX5_readYear_27 : decode cX5_readYear 27 = .ok (.iconst 0, 1) := by decide +kernel
theorem dX5_readYear_28 : decode cX5_readYear 28 = .ok (.istore_n 2, 1) := by decide +kernel
theorem dX5_readYear_29 : decode cX5_readYear 29 = .ok (.iload_n 2, 1) := by decide +kernel
theorem dX5_readYear_30 : decode cX5_readYear 30 = .ok (.iconst 4, 1) := by decide +kernel
theorem dX5_readYear_31 : decode cX5_readYear 31 = .ok (.if_icmp .ge 48, 3) := by decide +kernel
theorem dX5_readYear_34 : decode cX5_readYear 34 = .ok (.aload_n 0, 1) := by decide +kernel
theorem dX5_readYear_35 : decode cX5_readYear 35 = .ok (.invokevirtual 76, 3) := by decide +kernel
theorem dX5_readYear_38 : decode cX5_readYear 38 = .ok (.invokestatic 117, 3) := by decide +kernel
theorem dX5_readYear_41 : decode cX5_readYear 41 = .ok (.ifCond .ne 13, 3) := by decide +kernel
theorem dX5_readYear_44 : decode cX5_readYear 44 = .ok (.aload_n 0, 1) := by decide +kernel
theorem dX5_readYear_45 : decode cX5_readYear 45 = .ok (.iconst 1, 1) := by decide +kernel
theorem dX5_readYear_46 : decode cX5_readYear 46 = .ok (.aload_n 0, 1) := by decide +kernel
theorem dX5_readYear_47 : decode cX5_readYear 47 = .ok (.getfield 29, 3) := by decide +kernel
theorem dX5_readYear_50 : decode cX5_readYear 50 = .ok (.invokevirtual 83, 3) := by decide +kernel
theorem dX5_readYear_53 : decode cX5_readYear 53 = .ok (.ireturn, 1) := by decide +kernel
theorem dX5_readYear_54 : decode cX5_readYear 54 = .ok (.aload_n 0, 1) := by decide +kernel
theorem dX5_readYear_55 : decode cX5_readYear 55 = .ok (.aload_n 0, 1) := by decide +kernel
theorem dX5_readYear_56 : decode cX5_readYear 56 = .ok (.getfield 39, 3) := by decide +kernel
theorem dX5_readYear_59 : decode cX5_readYear 59 = .ok (.bipush 10, 2) := by decide +kernel
theorem dX5_readYear_61 : decode cX5_readYear 61 = .ok (.imul, 1) := by decide +kernel
theorem dX5_readYear_62 : decode cX5_readYear 62 = .ok (.aload_n 0, 1) := by decide +kernel
theorem dX5_readYear_63 : decode cX5_readYear 63 = .ok (.invokevirtual 120, 3) := by decide +kernel
theorem dX5_readYear_66 : decode cX5_readYear 66 = .ok (.iadd, 1) := by decide +kernel
theorem dX5_readYear_67 : decode cX5_readYear 67 = .ok (.bipush 48, 2) := by decide +kernel
theorem dX5_readYear_69 : decode cX5_readYear 69 = .ok (.isub, 1) := by decide +kernel
theorem dX5_readYear_70 : decode cX5_readYear 70 = .ok (.putfield 39, 3) := by decide +kernel
theorem dX5_readYear_73 : decode cX5_readYear 73 = .ok (.iinc 2 1, 3) := by decide +kernel
theorem dX5_readYear_76 : decode cX5_readYear 76 = .ok (.goto (-47), 3) := by decide +kernel
theorem dX5_readYear_79 : decode cX5_readYear 79 = .ok (.aload_n 0, 1) := by decide +kernel
theorem dX5_readYear_80 : decode cX5_readYear 80 = .ok (.getfield 39, 3) := by decide +kernel
theorem dX5_readYear_83 : decode cX5_readYear 83 = .ok (.sipush 1000, 3) := by decide +kernel
theorem dX5_readYear_86 : decode cX5_readYear 86 = .ok (.if_icmp .lt 13, 3) := by decide +kernel
theorem dX5_readYear_89 : decode cX5_readYear 89 = .ok (.aload_n 0, 1) := by decide +kernel
theorem dX5_readYear_90 : decode cX5_readYear 90 = .ok (.getfield 39, 3) := by decide +kernel
theorem dX5_readYear_93 : decode cX5_readYear 93 = .ok (.sipush 2999, 3) := by decide +kernel
theorem dX5_readYear_96 : decode cX5_readYear 96 = .ok (.if_icmp .le 10, 3) := by decide +kernel
theorem dX5_readYear_99 : decode cX5_readYear 99 = .ok (.aload_n 0, 1) := by decide +kernel
theorem dX5_readYear_100 : decode cX5_readYear 100 = .ok (.iconst 3, 1) := by decide +kernel
theorem dX5_readYear_101 : decode cX5_readYear 101 = .ok (.iload_n 1, 1) := by decide +kernel
theorem dX5_readYear_102 : decode cX5_readYear 102 = .ok (.invokevirtual 83, 3) := by decide +kernel
theorem dX5_readYear_105 : decode cX5_readYear 105 = .ok (.ireturn, 1) := by decide +kernel
theorem dX5_readYear_106 : decode cX5_readYear 106 = .ok (.aload_n 0, 1) := by decide +kernel
theorem dX5_readYear_107 : decode cX5_readYear 107 = .ok (.getfield 25, 3) := by decide +kernel
theorem dX5_readYear_110 : decode cX5_readYear 110 = .ok (.aload_n 0, 1) := by decide +kernel
theorem dX5_readYear_111 : decode cX5_readYear 111 = .ok (.getfield 39, 3) := by decide +kernel
theorem dX5_readYear_114 : decode cX5_readYear 114 = .ok (.putfield 151, 3) := by decide +kernel
theorem dX5_readYear_117 : decode cX5_readYear 117 = .ok (.iconst 1, 1) := by decide +kernel
theorem dX5_readYear_118 : decode cX5_readYear 118 = .ok (.ireturn, 1) := by decide +kernel
set_option maxHeartbeats 4000000 in
set_option maxRecDepth 100000 in
theorem kX5_readYear (l : Launch) (z : Nat) (D : va_G) (cA : Nat → ClassId) (a0 : Nat) (M : Mem) (K : Int32 → Mem → Prop) (h : PX5_readYear a0 M K) : Met l yX5_readYear (.code yX5_readYear cX5_readYear 3 (some .boolean) :: gtbl) ({ frames := 2, cells := 0, slots := 0, locals := 42 } : Room) (va_Pc [.ref a0] (xB z D cA M)) (va_Qi K (xWd z D cA) (xA z)) 0 0 (xA z) := by
  refine x_met (by decide +kernel) (Nat.le_of_ble_eq_true rfl) (L0 := [(0, .ref a0)]) rfl ?_
  intro p e s m args below meth c E hr hlk hnm
  have E : xE RX5 cX5_readYear 3 D cA p s m args c := E
  have hJ99 : ∀ (M : Mem) (j0 : Nat) (j1 : Int32), JX5_readYear_99 K M j0 j1 → xG p l e ({ frames := 2, cells := 0, slots := 0, locals := 42 } : Room) s m args below meth c (MQ below (va_Qi K (xWd z D cA) (xA z)) args s 0 0 (xA z)) 3 z D cA M (0) (0) 99 [(0, .ref j0), (1, .int j1)] [] := by
    intro M j0 j1 h
    refine x_aload_n E dX5_readYear_99 rfl 0 rfl ?_
    refine x_iconst (v := (J 3)) E dX5_readYear_100 (by decide) ?_
    refine x_iload_n E dX5_readYear_101 rfl 1 rfl ?_
    refine x_callVi (T := TX5) (N := 8) (t := 6) (As := [.int (J 3), .int j1]) E mlX5_83 inX5_fail seX5_fail rfl ⟨by decide, by decide⟩ (tX5_fail h) (kX5_fail l z D cA j0 (J 3) j1 M _ h) rfl ⟨rfl, rfl⟩ ⟨Nat.le_of_ble_eq_true rfl, Nat.le_of_ble_eq_true rfl⟩ ⟨(Nat.le_of_ble_eq_true rfl), (Nat.le_of_ble_eq_true rfl)⟩ (Nat.le_of_ble_eq_true rfl) rfl dX5_readYear_102 (fun r12 M13 h => ?_)
    exact x_zret E hr hlk dX5_readYear_105 h.1 h.2
  replace h := h.2
  refine x_aload_n E dX5_readYear_0 rfl 0 rfl ?_
  obtain ⟨hT, q1, hv, h⟩ := h
  refine x_get E flX5_25 dX5_readYear_1 hT hv ?_
  clear hT hv
  obtain ⟨hT, q2, hv, h⟩ := h
  refine x_get E flX5_144 dX5_readYear_4 hT hv ?_
  clear hT hv
  refine x_bipush (v := (J 32)) E dX5_readYear_7 (by decide) ?_
  refine x_callVv (T := TX1) (N := 2) (t := 2) (As := [.int (J 32)]) E mlX5_147 inX1_append seX1_append rfl ⟨by decide, by decide⟩ (tX1_append h) (kX1_append l z D cA q2 (J 32) M _ h) rfl ⟨rfl, rfl⟩ ⟨Nat.le_of_ble_eq_true rfl, Nat.le_of_ble_eq_true rfl⟩ ⟨(Nat.le_of_ble_eq_true rfl), (Nat.le_of_ble_eq_true rfl)⟩ (Nat.le_of_ble_eq_true rfl) rfl dX5_readYear_9 (fun M4 h => ?_)
  refine x_aload_n E dX5_readYear_12 rfl 0 rfl ?_
  refine x_callVi (T := TX5) (N := 8) (t := 6) (As := []) E mlX5_120 inX5_takeSign seX5_takeSign rfl ⟨by decide, by decide⟩ (tX5_takeSign h) (kX5_takeSign l z D cA a0 M4 _ h) rfl ⟨rfl, rfl⟩ ⟨Nat.le_of_ble_eq_true rfl, Nat.le_of_ble_eq_true rfl⟩ ⟨(Nat.le_of_ble_eq_true rfl), (Nat.le_of_ble_eq_true rfl)⟩ (Nat.le_of_ble_eq_true rfl) rfl dX5_readYear_13 (fun r5 M6 h => ?_)
  refine x_pop E dX5_readYear_16 rfl ?_
  refine x_aload_n E dX5_readYear_17 rfl 0 rfl ?_
  obtain ⟨hT, v7, hv, h⟩ := h
  refine x_get E flX5_29 dX5_readYear_18 hT hv ?_
  clear hT hv
  refine x_istore_n (L' := [(1, .int v7), (0, .ref a0)]) E dX5_readYear_21 rfl (by decide) rfl ?_
  refine x_aload_n E dX5_readYear_22 rfl 1 rfl ?_
  refine x_iconst (v := (J 0)) E dX5_readYear_23 (by decide) ?_
  obtain ⟨hT, h⟩ := h
  refine x_put E flX5_39 ⟨tyX5_ok, nmX5, rfl⟩ (by decide +kernel) rfl rfl dX5_readYear_24 hT (fun M8 eM8 => ?_)
  replace h := h M8 eM8
  clear hT eM8
  refine x_iconst (v := (J 0)) E dX5_readYear_27 (by decide) ?_
  refine x_istore_n (L' := [(2, .int (J 0)), (1, .int v7), (0, .ref a0)]) E dX5_readYear_28 rfl (by decide) rfl ?_
  refine x_sub (L' := [(0, .ref a0), (1, .int v7), (2, .int (J 0))]) [2, 1, 0] rfl ?_
  refine lp_sound (T := fun sv => xG p l e ({ frames := 2, cells := 0, slots := 0, locals := 42 } : Room) s m args below meth c (MQ below (va_Qi K (xWd z D cA) (xA z)) args s 0 0 (xA z)) 3 z D cA sv.1 (0) (0) 29 [(0, .ref a0), (1, .int v7), (2, .int sv.2)] []) ?_ (M8, (J 0)) h
  clear h
  intro kc29 hk29 sv h
  obtain ⟨M, x2⟩ := sv
  replace h : CX5_readYear_29 K a0 v7 kc29 M x2 := h
  try dsimp only
  refine x_iload_n E dX5_readYear_29 rfl 2 rfl ?_
  refine x_iconst (v := (J 4)) E dX5_readYear_30 (by decide) ?_
  refine x_icmp_ge (tgt := 79) E dX5_readYear_31 (by decide) (fun c9 => ?_) (fun c9 => ?_)
  · replace h := xbr_t h c9
    clear c9
    refine x_aload_n E dX5_readYear_79 rfl 0 rfl ?_
    obtain ⟨hT, v10, hv, h⟩ := h
    refine x_get E flX5_39 dX5_readYear_80 hT hv ?_
    clear hT hv
    refine x_sipush (v := (J 1000)) E dX5_readYear_83 (by decide) ?_
    refine x_icmp_lt (tgt := 99) E dX5_readYear_86 (by decide) (fun c11 => ?_) (fun c11 => ?_)
    · replace h := xbr_t h c11
      clear c11
      refine x_sub (L' := [(0, .ref a0), (1, .int v7)]) [0, 1] rfl ?_
      exact hJ99 M a0 v7 h
    · replace h := xbr_f h c11
      clear c11
      refine x_aload_n E dX5_readYear_89 rfl 0 rfl ?_
      obtain ⟨hT, v14, hv, h⟩ := h
      refine x_get E flX5_39 dX5_readYear_90 hT hv ?_
      clear hT hv
      refine x_sipush (v := (J 2999)) E dX5_readYear_93 (by decide) ?_
      refine x_icmp_le (tgt := 106) E dX5_readYear_96 (by decide) (fun c15 => ?_) (fun c15 => ?_)
      · replace h := xbr_t h c15
        clear c15
        refine x_aload_n E dX5_readYear_106 rfl 0 rfl ?_
        obtain ⟨hT, q16, hv, h⟩ := h
        refine x_get E flX5_25 dX5_readYear_107 hT hv ?_
        clear hT hv
        refine x_aload_n E dX5_readYear_110 rfl 0 rfl ?_
        obtain ⟨hT, v17, hv, h⟩ := h
        refine x_get E flX5_39 dX5_readYear_111 hT hv ?_
        clear hT hv
        obtain ⟨hT, h⟩ := h
        refine x_put E flX5_151 ⟨tyX0_ok, nmX0, rfl⟩ (by decide +kernel) rfl rfl dX5_readYear_114 hT (fun M18 eM18 => ?_)
        replace h := h M18 eM18
        clear hT eM18
        refine x_iconst (v := (J 1)) E dX5_readYear_117 (by decide) ?_
        exact x_zret E hr hlk dX5_readYear_118 h.1 h.2
      · replace h := xbr_f h c15
        clear c15
        refine x_sub (L' := [(0, .ref a0), (1, .int v7)]) [0, 1] rfl ?_
        exact hJ99 M a0 v7 h
  · replace h := xbr_f h c9
    clear c9
    refine x_aload_n E dX5_readYear_34 rfl 0 rfl ?_
    refine x_callVi (T := TX5) (N := 8) (t := 6) (As := []) E mlX5_76 inX5_next seX5_next rfl ⟨by decide, by decide⟩ (tX5_next h) (kX5_next l z D cA a0 M _ h) rfl ⟨rfl, rfl⟩ ⟨Nat.le_of_ble_eq_true rfl, Nat.le_of_ble_eq_true rfl⟩ ⟨(Nat.le_of_ble_eq_true rfl), (Nat.le_of_ble_eq_true rfl)⟩ (Nat.le_of_ble_eq_true rfl) rfl dX5_readYear_35 (x_pure (fun r19 h => ?_))
    refine x_callSi (As := [.int r19]) E mlX5_117 rfl stX5_isFigure (kX5_isFigure l z D cA r19 M _ h) rfl ⟨rfl, rfl⟩ ⟨Nat.le_of_ble_eq_true rfl, Nat.le_of_ble_eq_true rfl⟩ ⟨(Nat.le_of_ble_eq_true rfl), (Nat.le_of_ble_eq_true rfl)⟩ (Nat.le_of_ble_eq_true rfl) rfl dX5_readYear_38 (x_pure (fun r21 h => ?_))
    refine x_if_ne (tgt := 54) E dX5_readYear_41 (by decide) (fun c23 => ?_) (fun c23 => ?_)
    · replace h := xbr_f h c23
      clear c23
      refine x_aload_n E dX5_readYear_54 rfl 0 rfl ?_
      refine x_aload_n E dX5_readYear_55 rfl 0 rfl ?_
      obtain ⟨hT, v24, hv, h⟩ := h
      refine x_get E flX5_39 dX5_readYear_56 hT hv ?_
      clear hT hv
      refine x_bipush (v := (J 10)) E dX5_readYear_59 (by decide) ?_
      refine x_imul E dX5_readYear_61 ?_
      refine x_aload_n E dX5_readYear_62 rfl 0 rfl ?_
      refine x_callVi (T := TX5) (N := 8) (t := 6) (As := []) E mlX5_120 inX5_takeSign seX5_takeSign rfl ⟨by decide, by decide⟩ (tX5_takeSign h) (kX5_takeSign l z D cA a0 M _ h) rfl ⟨rfl, rfl⟩ ⟨Nat.le_of_ble_eq_true rfl, Nat.le_of_ble_eq_true rfl⟩ ⟨(Nat.le_of_ble_eq_true rfl), (Nat.le_of_ble_eq_true rfl)⟩ (Nat.le_of_ble_eq_true rfl) rfl dX5_readYear_63 (fun r25 M26 h => ?_)
      refine x_iadd E dX5_readYear_66 ?_
      refine x_bipush (v := (J 48)) E dX5_readYear_67 (by decide) ?_
      refine x_isub E dX5_readYear_69 ?_
      obtain ⟨hT, h⟩ := h
      refine x_put E flX5_39 ⟨tyX5_ok, nmX5, rfl⟩ (by decide +kernel) rfl rfl dX5_readYear_70 hT (fun M27 eM27 => ?_)
      replace h := h M27 eM27
      clear hT eM27
      refine x_iinc (v := (x2 + (J 1))) (L' := [(2, .int (x2 + (J 1))), (0, .ref a0), (1, .int v7)]) E dX5_readYear_73 2 rfl rfl (by decide) rfl ?_
      refine x_goto (tgt := 29) E dX5_readYear_76 (by decide) ?_
      refine x_sub (L' := [(0, .ref a0), (1, .int v7), (2, .int (x2 + (J 1)))]) [1, 2, 0] rfl ?_
      exact hk29 (M27, (x2 + (J 1))) h
    · replace h := xbr_t h c23
      clear c23
      refine x_aload_n E dX5_readYear_44 rfl 0 rfl ?_
      refine x_iconst (v := (J 1)) E dX5_readYear_45 (by decide) ?_
      refine x_aload_n E dX5_readYear_46 rfl 0 rfl ?_
      obtain ⟨hT, v28, hv, h⟩ := h
      refine x_get E flX5_29 dX5_readYear_47 hT hv ?_
      clear hT hv
      refine x_callVi (T := TX5) (N := 8) (t := 6) (As := [.int (J 1), .int v28]) E mlX5_83 inX5_fail seX5_fail rfl ⟨by decide, by decide⟩ (tX5_fail h) (kX5_fail l z D cA a0 (J 1) v28 M _ h) rfl ⟨rfl, rfl⟩ ⟨Nat.le_of_ble_eq_true rfl, Nat.le_of_ble_eq_true rfl⟩ ⟨(Nat.le_of_ble_eq_true rfl), (Nat.le_of_ble_eq_true rfl)⟩ (Nat.le_of_ble_eq_true rfl) rfl dX5_readYear_50 (fun r29 M30 h => ?_)
      exact x_zret E hr hlk dX5_readYear_53 h.1 h.2
theorem dX5_readThickness_0 : decode cX5_readThickness 0 = .ok (.aload_n 0, 1) := by decide +kernel
theorem dX5_readThickness_1 : decode cX5_readThickness 1 = .ok (.dup, 1) := by decide +kernel
theorem dX5_readThickness_2 : decode cX5_readThickness 2 = .ok (.getfield 29, 3) := by decide +kernel
theorem dX5_readThickness_5 : decode cX5_readThickness 5 = .ok (.iconst 1, 1) := by decide +kernel
theorem dX5_readThickness_6 : decode cX5_readThickness 6 = .ok (.iadd, 1) := by decide +kernel
theorem dX5_readThickness_7 : decode cX5_readThickness 7 = .ok (.putfield 29, 3) := by decide +kernel
theorem dX5_readThickness_10 : decode cX5_readThickness 10 = .ok (.aload_n 0, 1) := by decide +kernel
theorem dX5_readThickness_11 : decode cX5_readThickness 11 = .ok (.invokevirtual 76, 3) := by decide +kernel
theorem dX5_readThickness_14 : decode cX5_readThickness 14 = .ok (.invokestatic 117, 3) := by decide +kernel
theorem dX5_readThickness_17 : decode cX5_readThickness 17 = .ok (.ifCond .eq 12, 3) := by decide +kernel
theorem dX5_readThickness_20 : decode cX5_readThickness 20 = .ok (.aload_n 0, 1) := by decide +kernel
theorem dX5_readThickness_21 : decode cX5_readThickness 21 = .ok (.invokevirtual 76, 3) := by decide +kernel
theorem dX5_readThickness_24 : decode cX5_readThickness 24 = .ok (.bipush 48, 2) := by decide +kernel
theorem dX5_readThickness_26 : decode cX5_readThickness 26 = .ok (.if_icmp .ne 13, 3) := by decide +kernel
theorem dX5_readThickness_29 : decode cX5_readThickness 29 = .ok (.aload_n 0, 1) := by decide +kernel
theorem dX5_readThickness_30 : decode cX5_readThickness 30 = .ok (.iconst 1, 1) := by decide +kernel
theorem dX5_readThickness_31 : decode cX5_readThickness 31 = .ok (.aload_n 0, 1) := by decide +kernel
theorem dX5_readThickness_32 : decode cX5_readThickness 32 = .ok (.getfield 29, 3) := by decide +kernel
theorem dX5_readThickness_35 : decode cX5_readThickness 35 = .ok (.invokevirtual 83, 3) := by decide +kernel
theorem dX5_readThickness_38 : decode cX5_readThickness 38 = .ok (.ireturn, 1) := by decide +kernel
theorem dX5_readThickness_39 : decode cX5_readThickness 39 = .ok (.aload_n 0, 1) := by decide +kernel
theorem dX5_readThickness_40 : decode cX5_readThickness 40 = .ok (.getfield 25, 3) := by decide +kernel
theorem dX5_readThickness_43 : decode cX5_readThickness 43 = .ok (.aload_n 0, 1) := by decide +kernel
theorem dX5_readThickness_44 : decode cX5_readThickness 44 = .ok (.invokevirtual 76, 3) := by decide +kernel
theorem dX5_readThickness_47 : decode cX5_readThickness 47 = .ok (.bipush 48, 2) := by decide +kernel
theorem dX5_readThickness_49 : decode cX5_readThickness 49 = .ok (.isub, 1) := by decide +kernel
theorem dX5_readThickness_50 : decode cX5_readThickness 50 = .ok (.putfield 154, 3) := by decide +kernel
theorem dX5_readThickness_53 : decode cX5_readThickness 53 = .ok (.aload_n 0, 1) := by decide +kernel
theorem dX5_readThickness_54 : decode cX5_readThickness 54 = .ok (.dup, 1) := by decide +kernel
theorem dX5_readThickness_55 : decode cX5_readThickness 55 = .ok (.getfield 29, 3) := by decide +kernel
theorem dX5_readThickness_58 : decode cX5_readThickness 58 = .ok (.iconst 1, 1) := by decide +kernel
theorem dX5_readThickness_59 : decode cX5_readThickness 59 = .ok (.iadd, 1) := by decide +kernel
theorem dX5_readThickness_60 : decode cX5_readThickness 60 = .ok (.putfield 29, 3) := by decide +kernel
theorem dX5_readThickness_63 : decode cX5_readThickness 63 = .ok (.iconst 1, 1) := by decide +kernel
theorem dX5_readThickness_64 : decode cX5_readThickness 64 = .ok (.ireturn, 1) := by decide +kernel
set_option maxHeartbeats 4000000 in
set_option maxRecDepth 100000 in
theorem kX5_readThickness (l : Launch) (z : Nat) (D : va_G) (cA : Nat → ClassId) (a0 : Nat) (M : Mem) (K : Int32 → Mem → Prop) (h : PX5_readThickness a0 M K) : Met l yX5_readThickness (.code yX5_readThickness cX5_readThickness 1 (some .boolean) :: gtbl) ({ frames := 2, cells := 0, slots := 0, locals := 41 } : Room) (va_Pc [.ref a0] (xB z D cA M)) (va_Qi K (xWd z D cA) (xA z)) 0 0 (xA z) := by
  refine x_met (by decide +kernel) (Nat.le_of_ble_eq_true rfl) (L0 := [(0, .ref a0)]) rfl ?_
  intro p e s m args below meth c E hr hlk hnm
  have E : xE RX5 cX5_readThickness 1 D cA p s m args c := E
  have hJ29 : ∀ (M : Mem) (j0 : Nat), JX5_readThickness_29 K M j0 → xG p l e ({ frames := 2, cells := 0, slots := 0, locals := 41 } : Room) s m args below meth c (MQ below (va_Qi K (xWd z D cA) (xA z)) args s 0 0 (xA z)) 1 z D cA M (0) (0) 29 [(0, .ref j0)] [] := by
    intro M j0 h
    refine x_aload_n E dX5_readThickness_29 rfl 0 rfl ?_
    refine x_iconst (v := (J 1)) E dX5_readThickness_30 (by decide) ?_
    refine x_aload_n E dX5_readThickness_31 rfl 0 rfl ?_
    obtain ⟨hT, v8, hv, h⟩ := h
    refine x_get E flX5_29 dX5_readThickness_32 hT hv ?_
    clear hT hv
    refine x_callVi (T := TX5) (N := 8) (t := 6) (As := [.int (J 1), .int v8]) E mlX5_83 inX5_fail seX5_fail rfl ⟨by decide, by decide⟩ (tX5_fail h) (kX5_fail l z D cA j0 (J 1) v8 M _ h) rfl ⟨rfl, rfl⟩ ⟨Nat.le_of_ble_eq_true rfl, Nat.le_of_ble_eq_true rfl⟩ ⟨(Nat.le_of_ble_eq_true rfl), (Nat.le_of_ble_eq_true rfl)⟩ (Nat.le_of_ble_eq_true rfl) rfl dX5_readThickness_35 (fun r9 M10 h => ?_)
    exact x_zret E hr hlk dX5_readThickness_38 h.1 h.2
  replace h := h.2
  refine x_aload_n E dX5_readThickness_0 rfl 0 rfl ?_
  refine x_dup E dX5_readThickness_1 rfl ?_
  obtain ⟨hT, v1, hv, h⟩ := h
  refine x_get E flX5_29 dX5_readThickness_2 hT hv ?_
  clear hT hv
  refine x_iconst (v := (J 1)) E dX5_readThickness_5 (by decide) ?_
  refine x_iadd E dX5_readThickness_6 ?_
  obtain ⟨hT, h⟩ := h
  refine x_put E flX5_29 ⟨tyX5_ok, nmX5, rfl⟩ (by decide +kernel) rfl rfl dX5_readThickness_7 hT (fun M2 eM2 => ?_)
  replace h := h M2 eM2
  clear hT eM2
  refine x_aload_n E dX5_readThickness_10 rfl 0 rfl ?_
  refine x_callVi (T := TX5) (N := 8) (t := 6) (As := []) E mlX5_76 inX5_next seX5_next rfl ⟨by decide, by decide⟩ (tX5_next h) (kX5_next l z D cA a0 M2 _ h) rfl ⟨rfl, rfl⟩ ⟨Nat.le_of_ble_eq_true rfl, Nat.le_of_ble_eq_true rfl⟩ ⟨(Nat.le_of_ble_eq_true rfl), (Nat.le_of_ble_eq_true rfl)⟩ (Nat.le_of_ble_eq_true rfl) rfl dX5_readThickness_11 (x_pure (fun r3 h => ?_))
  refine x_callSi (As := [.int r3]) E mlX5_117 rfl stX5_isFigure (kX5_isFigure l z D cA r3 M2 _ h) rfl ⟨rfl, rfl⟩ ⟨Nat.le_of_ble_eq_true rfl, Nat.le_of_ble_eq_true rfl⟩ ⟨(Nat.le_of_ble_eq_true rfl), (Nat.le_of_ble_eq_true rfl)⟩ (Nat.le_of_ble_eq_true rfl) rfl dX5_readThickness_14 (x_pure (fun r5 h => ?_))
  refine x_if_eq (tgt := 29) E dX5_readThickness_17 (by decide) (fun c7 => ?_) (fun c7 => ?_)
  · replace h := xbr_t h c7
    clear c7
    exact hJ29 M2 a0 h
  · replace h := xbr_f h c7
    clear c7
    refine x_aload_n E dX5_readThickness_20 rfl 0 rfl ?_
    refine x_callVi (T := TX5) (N := 8) (t := 6) (As := []) E mlX5_76 inX5_next seX5_next rfl ⟨by decide, by decide⟩ (tX5_next h) (kX5_next l z D cA a0 M2 _ h) rfl ⟨rfl, rfl⟩ ⟨Nat.le_of_ble_eq_true rfl, Nat.le_of_ble_eq_true rfl⟩ ⟨(Nat.le_of_ble_eq_true rfl), (Nat.le_of_ble_eq_true rfl)⟩ (Nat.le_of_ble_eq_true rfl) rfl dX5_readThickness_21 (x_pure (fun r11 h => ?_))
    refine x_bipush (v := (J 48)) E dX5_readThickness_24 (by decide) ?_
    refine x_icmp_ne (tgt := 39) E dX5_readThickness_26 (by decide) (fun c13 => ?_) (fun c13 => ?_)
    · replace h := xbr_f h c13
      clear c13
      refine x_aload_n E dX5_readThickness_39 rfl 0 rfl ?_
      obtain ⟨hT, q14, hv, h⟩ := h
      refine x_get E flX5_25 dX5_readThickness_40 hT hv ?_
      clear hT hv
      refine x_aload_n E dX5_readThickness_43 rfl 0 rfl ?_
      refine x_callVi (T := TX5) (N := 8) (t := 6) (As := []) E mlX5_76 inX5_next seX5_next rfl ⟨by decide, by decide⟩ (tX5_next h) (kX5_next l z D cA a0 M2 _ h) rfl ⟨rfl, rfl⟩ ⟨Nat.le_of_ble_eq_true rfl, Nat.le_of_ble_eq_true rfl⟩ ⟨(Nat.le_of_ble_eq_true rfl), (Nat.le_of_ble_eq_true rfl)⟩ (Nat.le_of_ble_eq_true rfl) rfl dX5_readThickness_44 (x_pure (fun r15 h => ?_))
      refine x_bipush (v := (J 48)) E dX5_readThickness_47 (by decide) ?_
      refine x_isub E dX5_readThickness_49 ?_
      obtain ⟨hT, h⟩ := h
      refine x_put E flX5_154 ⟨tyX0_ok, nmX0, rfl⟩ (by decide +kernel) rfl rfl dX5_readThickness_50 hT (fun M17 eM17 => ?_)
      replace h := h M17 eM17
      clear hT eM17
      refine x_aload_n E dX5_readThickness_53 rfl 0 rfl ?_
      refine x_dup E dX5_readThickness_54 rfl ?_
      obtain ⟨hT, v18, hv, h⟩ := h
      refine x_get E flX5_29 dX5_readThickness_55 hT hv ?_
      clear hT hv
      refine x_iconst (v := (J 1)) E dX5_readThickness_58 (by decide) ?_
      refine x_iadd E dX5_readThickness_59 ?_
      obtain ⟨hT, h⟩ := h
      refine x_put E flX5_29 ⟨tyX5_ok, nmX5, rfl⟩ (by decide +kernel) rfl rfl dX5_readThickness_60 hT (fun M19 eM19 => ?_)
      replace h := h M19 eM19
      clear hT eM19
      refine x_iconst (v := (J 1)) E dX5_readThickness_63 (by decide) ?_
      exact x_zret E hr hlk dX5_readThickness_64 h.1 h.2
    · replace h := xbr_t h c13
      clear c13
      exact hJ29 M2 a0 h
theorem dX5_readBehindBlanks_0 : decode cX5_readBehindBlanks 0 = .ok (.aload_n 0, 1) := by decide +kernel
theorem dX5_readBehindBlanks_1 : decode cX5_readBehindBlanks 1 = .ok (.invokevirtual 45, 3) := by decide +kernel
theorem dX5_readBehindBlanks_4 : decode cX5_readBehindBlanks 4 = .ok (.istore_n 1, 1) := by decide +kernel
theorem dX5_readBehindBlanks_5 : decode cX5_readBehindBlanks 5 = .ok (.iload_n 1, 1) := by decide +kernel
theorem dX5_readBehindBlanks_6 : decode cX5_readBehindBlanks 6 = .ok (.ifCond .eq 26, 3) := by decide +kernel
theorem dX5_readBehindBlanks_9 : decode cX5_readBehindBlanks 9 = .ok (.aload_n 0, 1) := by decide +kernel
theorem dX5_readBehindBlanks_10 : decode cX5_readBehindBlanks 10 = .ok (.invokevirtual 76, 3) := by decide +kernel
theorem dX5_readBehindBlanks_13 : decode cX5_readBehindBlanks 13 = .ok (.bipush 121, 2) := by decide +kernel
theorem dX5_readBehindBlanks_15 : decode cX5_readBehindBlanks 15 = .ok (.if_icmp .ne 17, 3) := by decide +kernel
theorem dX5_readBehindBlanks_18 : decode cX5_readBehindBlanks 18 = .ok (.aload_n 0, 1) := by decide +kernel
theorem dX5_readBehindBlanks_19 : decode cX5_readBehindBlanks 19 = .ok (.invokevirtual 138, 3) := by decide +kernel
theorem dX5_readBehindBlanks_22 : decode cX5_readBehindBlanks 22 = .ok (.ifCond .ne 5, 3) := by decide +kernel
theorem dX5_readBehindBlanks_25 : decode cX5_readBehindBlanks 25 = .ok (.iconst 0, 1) := by decide +kernel
theorem dX5_readBehindBlanks_26 : decode cX5_readBehindBlanks 26 = .ok (.ireturn, 1) := by decide +kernel
theorem dX5_readBehindBlanks_27 : decode cX5_readBehindBlanks 27 = .ok (.aload_n 0, 1) := by decide +kernel
theorem dX5_readBehindBlanks_28 : decode cX5_readBehindBlanks 28 = .ok (.invokevirtual 45, 3) := by decide +kernel
theorem dX5_readBehindBlanks_31 : decode cX5_readBehindBlanks 31 = .ok (.istore_n 1, 1) := by decide +kernel
theorem dX5_readBehindBlanks_32 : decode cX5_readBehindBlanks 32 = .ok (.iload_n 1, 1) := by decide +kernel
theorem dX5_readBehindBlanks_33 : decode cX5_readBehindBlanks 33 = .ok (.ifCond .eq 26, 3) := by decide +kernel
theorem dX5_readBehindBlanks_36 : decode cX5_readBehindBlanks 36 = .ok (.aload_n 0, 1) := by decide +kernel
theorem dX5_readBehindBlanks_37 : decode cX5_readBehindBlanks 37 = .ok (.invokevirtual 76, 3) := by decide +kernel
theorem dX5_readBehindBlanks_40 : decode cX5_readBehindBlanks 40 = .ok (.bipush 119, 2) := by decide +kernel
theorem dX5_readBehindBlanks_42 : decode cX5_readBehindBlanks 42 = .ok (.if_icmp .ne 17, 3) := by decide +kernel
theorem dX5_readBehindBlanks_45 : decode cX5_readBehindBlanks 45 = .ok (.aload_n 0, 1) := by decide +kernel
theorem dX5_readBehindBlanks_46 : decode cX5_readBehindBlanks 46 = .ok (.invokevirtual 141, 3) := by decide +kernel
theorem dX5_readBehindBlanks_49 : decode cX5_readBehindBlanks 49 = .ok (.ifCond .ne 5, 3) := by decide +kernel
theorem dX5_readBehindBlanks_52 : decode cX5_readBehindBlanks 52 = .ok (.iconst 0, 1) := by decide +kernel
theorem dX5_readBehindBlanks_53 : decode cX5_readBehindBlanks 53 = .ok (.ireturn, 1) := by decide +kernel
theorem dX5_readBehindBlanks_54 : decode cX5_readBehindBlanks 54 = .ok (.aload_n 0, 1) := by decide +kernel
theorem dX5_readBehindBlanks_55 : decode cX5_readBehindBlanks 55 = .ok (.invokevirtual 45, 3) := by decide +kernel
theorem dX5_readBehindBlanks_58 : decode cX5_readBehindBlanks 58 = .ok (.pop, 1) := by decide +kernel
theorem dX5_readBehindBlanks_59 : decode cX5_readBehindBlanks 59 = .ok (.iconst 1, 1) := by decide +kernel
theorem dX5_readBehindBlanks_60 : decode cX5_readBehindBlanks 60 = .ok (.ireturn, 1) := by decide +kernel
set_option maxHeartbeats 4000000 in
set_option maxRecDepth 100000 in
theorem kX5_readBehindBlanks (l : Launch) (z : Nat) (D : va_G) (cA : Nat → ClassId) (a0 : Nat) (M : Mem) (K : Int32 → Mem → Prop) (h : PX5_readBehindBlanks a0 M K) : Met l yX5_readBehindBlanks (.code yX5_readBehindBlanks cX5_readBehindBlanks 2 (some .boolean) :: gtbl) ({ frames := 3, cells := 0, slots := 0, locals := 64 } : Room) (va_Pc [.ref a0] (xB z D cA M)) (va_Qi K (xWd z D cA) (xA z)) 0 0 (xA z) := by
  refine x_met (by decide +kernel) (Nat.le_of_ble_eq_true rfl) (L0 := [(0, .ref a0)]) rfl ?_
  intro p e s m args below meth c E hr hlk hnm
  have E : xE RX5 cX5_readBehindBlanks 2 D cA p s m args c := E
  have hJ32 : ∀ (M : Mem) (j0 : Nat) (j1 : Int32), JX5_readBehindBlanks_32 K M j0 j1 → xG p l e ({ frames := 3, cells := 0, slots := 0, locals := 64 } : Room) s m args below meth c (MQ below (va_Qi K (xWd z D cA) (xA z)) args s 0 0 (xA z)) 2 z D cA M (0) (0) 32 [(0, .ref j0), (1, .int j1)] [] := by
    intro M j0 j1 h
    refine x_iload_n E dX5_readBehindBlanks_32 rfl 1 rfl ?_
    refine x_if_eq (tgt := 59) E dX5_readBehindBlanks_33 (by decide) (fun c4 => ?_) (fun c4 => ?_)
    · replace h := xbr_t h c4
      clear c4
      refine x_iconst (v := (J 1)) E dX5_readBehindBlanks_59 (by decide) ?_
      exact x_zret E hr hlk dX5_readBehindBlanks_60 h.1 h.2
    · replace h := xbr_f h c4
      clear c4
      refine x_aload_n E dX5_readBehindBlanks_36 rfl 0 rfl ?_
      refine x_callVi (T := TX5) (N := 8) (t := 6) (As := []) E mlX5_76 inX5_next seX5_next rfl ⟨by decide, by decide⟩ (tX5_next h) (kX5_next l z D cA j0 M _ h) rfl ⟨rfl, rfl⟩ ⟨Nat.le_of_ble_eq_true rfl, Nat.le_of_ble_eq_true rfl⟩ ⟨(Nat.le_of_ble_eq_true rfl), (Nat.le_of_ble_eq_true rfl)⟩ (Nat.le_of_ble_eq_true rfl) rfl dX5_readBehindBlanks_37 (x_pure (fun r5 h => ?_))
      refine x_bipush (v := (J 119)) E dX5_readBehindBlanks_40 (by decide) ?_
      refine x_icmp_ne (tgt := 59) E dX5_readBehindBlanks_42 (by decide) (fun c7 => ?_) (fun c7 => ?_)
      · replace h := xbr_f h c7
        clear c7
        refine x_iconst (v := (J 1)) E dX5_readBehindBlanks_59 (by decide) ?_
        exact x_zret E hr hlk dX5_readBehindBlanks_60 h.1 h.2
      · replace h := xbr_t h c7
        clear c7
        refine x_aload_n E dX5_readBehindBlanks_45 rfl 0 rfl ?_
        refine x_callVi (T := TX5) (N := 8) (t := 6) (As := []) E mlX5_141 inX5_readThickness seX5_readThickness rfl ⟨by decide, by decide⟩ (tX5_readThickness h) (kX5_readThickness l z D cA j0 M _ h) rfl ⟨rfl, rfl⟩ ⟨Nat.le_of_ble_eq_true rfl, Nat.le_of_ble_eq_true rfl⟩ ⟨(Nat.le_of_ble_eq_true rfl), (Nat.le_of_ble_eq_true rfl)⟩ (Nat.le_of_ble_eq_true rfl) rfl dX5_readBehindBlanks_46 (fun r8 M9 h => ?_)
        refine x_if_ne (tgt := 54) E dX5_readBehindBlanks_49 (by decide) (fun c10 => ?_) (fun c10 => ?_)
        · replace h := xbr_f h c10
          clear c10
          refine x_aload_n E dX5_readBehindBlanks_54 rfl 0 rfl ?_
          refine x_callVi (T := TX5) (N := 8) (t := 6) (As := []) E mlX5_45 inX5_skipBlanks seX5_skipBlanks rfl ⟨by decide, by decide⟩ (tX5_skipBlanks h) (kX5_skipBlanks l z D cA j0 M9 _ h) rfl ⟨rfl, rfl⟩ ⟨Nat.le_of_ble_eq_true rfl, Nat.le_of_ble_eq_true rfl⟩ ⟨(Nat.le_of_ble_eq_true rfl), (Nat.le_of_ble_eq_true rfl)⟩ (Nat.le_of_ble_eq_true rfl) rfl dX5_readBehindBlanks_55 (fun r11 M12 h => ?_)
          refine x_pop E dX5_readBehindBlanks_58 rfl ?_
          refine x_iconst (v := (J 1)) E dX5_readBehindBlanks_59 (by decide) ?_
          exact x_zret E hr hlk dX5_readBehindBlanks_60 h.1 h.2
        · replace h := xbr_t h c10
          clear c10
          refine x_iconst (v := (J 0)) E dX5_readBehindBlanks_52 (by decide) ?_
          exact x_zret E hr hlk dX5_readBehindBlanks_53 h.1 h.2
  replace h := h.2
  refine x_aload_n E dX5_readBehindBlanks_0 rfl 0 rfl ?_
  refine x_callVi (T := TX5) (N := 8) (t := 6) (As := []) E mlX5_45 inX5_skipBlanks seX5_skipBlanks rfl ⟨by decide, by decide⟩ (tX5_skipBlanks h) (kX5_skipBlanks l z D cA a0 M _ h) rfl ⟨rfl, rfl⟩ ⟨Nat.le_of_ble_eq_true rfl, Nat.le_of_ble_eq_true rfl⟩ ⟨(Nat.le_of_ble_eq_true rfl), (Nat.le_of_ble_eq_true rfl)⟩ (Nat.le_of_ble_eq_true rfl) rfl dX5_readBehindBlanks_1 (fun r1 M2 h => ?_)
  refine x_istore_n (L' := [(1, .int r1), (0, .ref a0)]) E dX5_readBehindBlanks_4 rfl (by decide) rfl ?_
  refine x_iload_n E dX5_readBehindBlanks_5 rfl 0 rfl ?_
  refine x_if_eq (tgt := 32) E dX5_readBehindBlanks_6 (by decide) (fun c3 => ?_) (fun c3 => ?_)
  · replace h := xbr_t h c3
    clear c3
    refine x_sub (L' := [(0, .ref a0), (1, .int r1)]) [1, 0] rfl ?_
    exact hJ32 M2 a0 r1 h
  · replace h := xbr_f h c3
    clear c3
    refine x_aload_n E dX5_readBehindBlanks_9 rfl 1 rfl ?_
    refine x_callVi (T := TX5) (N := 8) (t := 6) (As := []) E mlX5_76 inX5_next seX5_next rfl ⟨by decide, by decide⟩ (tX5_next h) (kX5_next l z D cA a0 M2 _ h) rfl ⟨rfl, rfl⟩ ⟨Nat.le_of_ble_eq_true rfl, Nat.le_of_ble_eq_true rfl⟩ ⟨(Nat.le_of_ble_eq_true rfl), (Nat.le_of_ble_eq_true rfl)⟩ (Nat.le_of_ble_eq_true rfl) rfl dX5_readBehindBlanks_10 (x_pure (fun r13 h => ?_))
    refine x_bipush (v := (J 121)) E dX5_readBehindBlanks_13 (by decide) ?_
    refine x_icmp_ne (tgt := 32) E dX5_readBehindBlanks_15 (by decide) (fun c15 => ?_) (fun c15 => ?_)
    · replace h := xbr_f h c15
      clear c15
      refine x_sub (L' := [(0, .ref a0), (1, .int r1)]) [1, 0] rfl ?_
      exact hJ32 M2 a0 r1 h
    · replace h := xbr_t h c15
      clear c15
      refine x_aload_n E dX5_readBehindBlanks_18 rfl 1 rfl ?_
      refine x_callVi (T := TX5) (N := 8) (t := 6) (As := []) E mlX5_138 inX5_readYear seX5_readYear rfl ⟨by decide, by decide⟩ (tX5_readYear h) (kX5_readYear l z D cA a0 M2 _ h) rfl ⟨rfl, rfl⟩ ⟨Nat.le_of_ble_eq_true rfl, Nat.le_of_ble_eq_true rfl⟩ ⟨(Nat.le_of_ble_eq_true rfl), (Nat.le_of_ble_eq_true rfl)⟩ (Nat.le_of_ble_eq_true rfl) rfl dX5_readBehindBlanks_19 (fun r16 M17 h => ?_)
      refine x_if_ne (tgt := 27) E dX5_readBehindBlanks_22 (by decide) (fun c18 => ?_) (fun c18 => ?_)
      · replace h := xbr_f h c18
        clear c18
        refine x_aload_n E dX5_readBehindBlanks_27 rfl 1 rfl ?_
        refine x_callVi (T := TX5) (N := 8) (t := 6) (As := []) E mlX5_45 inX5_skipBlanks seX5_skipBlanks rfl ⟨by decide, by decide⟩ (tX5_skipBlanks h) (kX5_skipBlanks l z D cA a0 M17 _ h) rfl ⟨rfl, rfl⟩ ⟨Nat.le_of_ble_eq_true rfl, Nat.le_of_ble_eq_true rfl⟩ ⟨(Nat.le_of_ble_eq_true rfl), (Nat.le_of_ble_eq_true rfl)⟩ (Nat.le_of_ble_eq_true rfl) rfl dX5_readBehindBlanks_28 (fun r19 M20 h => ?_)
        refine x_istore_n (L' := [(1, .int r19), (0, .ref a0)]) E dX5_readBehindBlanks_31 rfl (by decide) rfl ?_
        refine x_sub (L' := [(0, .ref a0), (1, .int r19)]) [1, 0] rfl ?_
        exact hJ32 M20 a0 r19 h
      · replace h := xbr_t h c18
        clear c18
        refine x_iconst (v := (J 0)) E dX5_readBehindBlanks_25 (by decide) ?_
        exact x_zret E hr hlk dX5_readBehindBlanks_26 h.1 h.2
theorem dX5_readEnd_0 : decode cX5_readEnd 0 = .ok (.aload_n 0, 1) := by decide +kernel
theorem dX5_readEnd_1 : decode cX5_readEnd 1 = .ok (.invokevirtual 76, 3) := by decide +kernel
theorem dX5_readEnd_4 : decode cX5_readEnd 4 = .ok (.bipush 59, 2) := by decide +kernel
theorem dX5_readEnd_6 : decode cX5_readEnd 6 = .ok (.if_icmp .eq 13, 3) := by decide +kernel
theorem dX5_readEnd_9 : decode cX5_readEnd 9 = .ok (.aload_n 0, 1) := by decide +kernel
theorem dX5_readEnd_10 : decode cX5_readEnd 10 = .ok (.iconst 1, 1) := by decide +kernel
theorem dX5_readEnd_11 : decode cX5_readEnd 11 = .ok (.aload_n 0, 1) := by decide +kernel
theorem dX5_readEnd_12 : decode cX5_readEnd 12 = .ok (.getfield 29, 3) := by decide +kernel
theorem dX5_readEnd_15 : decode cX5_readEnd 15 = .ok (.invokevirtual 83, 3) := by decide +kernel
theorem dX5_readEnd_18 : decode cX5_readEnd 18 = .ok (.ireturn, 1) := by decide +kernel
theorem dX5_readEnd_19 : decode cX5_readEnd 19 = .ok (.aload_n 0, 1) := by decide +kernel
theorem dX5_readEnd_20 : decode cX5_readEnd 20 = .ok (.getfield 15, 3) := by decide +kernel
theorem dX5_readEnd_23 : decode cX5_readEnd 23 = .ok (.invokevirtual 157, 3) := by decide +kernel
theorem dX5_readEnd_26 : decode cX5_readEnd 26 = .ok (.ifCond .eq 13, 3) := by decide +kernel
theorem dX5_readEnd_29 : decode cX5_readEnd 29 = .ok (.aload_n 0, 1) := by decide +kernel
theorem dX5_readEnd_30 : decode cX5_readEnd 30 = .ok (.iconst 5, 1) := by decide +kernel
theorem dX5_readEnd_31 : decode cX5_readEnd 31 = .ok (.aload_n 0, 1) := by decide +kernel
theorem dX5_readEnd_32 : decode cX5_readEnd 32 = .ok (.getfield 29, 3) := by decide +kernel
theorem dX5_readEnd_35 : decode cX5_readEnd 35 = .ok (.invokevirtual 83, 3) := by decide +kernel
theorem dX5_readEnd_38 : decode cX5_readEnd 38 = .ok (.ireturn, 1) := by decide +kernel
theorem dX5_readEnd_39 : decode cX5_readEnd 39 = .ok (.aload_n 0, 1) := by decide +kernel
theorem dX5_readEnd_40 : decode cX5_readEnd 40 = .ok (.getfield 15, 3) := by decide +kernel
theorem dX5_readEnd_43 : decode cX5_readEnd 43 = .ok (.invokevirtual 160, 3) := by decide +kernel
theorem dX5_readEnd_46 : decode cX5_readEnd 46 = .ok (.aload_n 0, 1) := by decide +kernel
theorem dX5_readEnd_47 : decode cX5_readEnd 47 = .ok (.dup, 1) := by decide +kernel
theorem dX5_readEnd_48 : decode cX5_readEnd 48 = .ok (.getfield 29, 3) := by decide +kernel
theorem dX5_readEnd_51 : decode cX5_readEnd 51 = .ok (.iconst 1, 1) := by decide +kernel
theorem dX5_readEnd_52 : decode cX5_readEnd 52 = .ok (.iadd, 1) := by decide +kernel
theorem dX5_readEnd_53 : decode cX5_readEnd 53 = .ok (.putfield 29, 3) := by decide +kernel
theorem dX5_readEnd_56 : decode cX5_readEnd 56 = .ok (.iconst 1, 1) := by decide +kernel
theorem dX5_readEnd_57 : decode cX5_readEnd 57 = .ok (.ireturn, 1) := by decide +kernel
set_option maxHeartbeats 4000000 in
set_option maxRecDepth 100000 in
theorem kX5_readEnd (l : Launch) (z : Nat) (D : va_G) (cA : Nat → ClassId) (a0 : Nat) (M : Mem) (K : Int32 → Mem → Prop) (h : PX5_readEnd a0 M K) : Met l yX5_readEnd (.code yX5_readEnd cX5_readEnd 1 (some .boolean) :: gtbl) ({ frames := 3, cells := 0, slots := 0, locals := 68 } : Room) (va_Pc [.ref a0] (xB z D cA M)) (va_Qi K (xWd z D cA) (xA z)) 0 0 (xA z) := by
  refine x_met (by decide +kernel) (Nat.le_of_ble_eq_true rfl) (L0 := [(0, .ref a0)]) rfl ?_
  intro p e s m args below meth c E hr hlk hnm
  have E : xE RX5 cX5_readEnd 1 D cA p s m args c := E
  replace h := h.2
  refine x_aload_n E dX5_readEnd_0 rfl 0 rfl ?_
  refine x_callVi (T := TX5) (N := 8) (t := 6) (As := []) E mlX5_76 inX5_next seX5_next rfl ⟨by decide, by decide⟩ (tX5_next h) (kX5_next l z D cA a0 M _ h) rfl ⟨rfl, rfl⟩ ⟨Nat.le_of_ble_eq_true rfl, Nat.le_of_ble_eq_true rfl⟩ ⟨(Nat.le_of_ble_eq_true rfl), (Nat.le_of_ble_eq_true rfl)⟩ (Nat.le_of_ble_eq_true rfl) rfl dX5_readEnd_1 (x_pure (fun r1 h => ?_))
  refine x_bipush (v := (J 59)) E dX5_readEnd_4 (by decide) ?_
  refine x_icmp_eq (tgt := 19) E dX5_readEnd_6 (by decide) (fun c3 => ?_) (fun c3 => ?_)
  · replace h := xbr_t h c3
    clear c3
    refine x_aload_n E dX5_readEnd_19 rfl 0 rfl ?_
    obtain ⟨hT, q4, hv, h⟩ := h
    refine x_get E flX5_15 dX5_readEnd_20 hT hv ?_
    clear hT hv
    refine x_callVi (T := TX2) (N := 4) (t := 3) (As := []) E mlX5_157 inX2_hasMarkOfDraft seX2_hasMarkOfDraft rfl ⟨by decide, by decide⟩ (tX2_hasMarkOfDraft h) (kX2_hasMarkOfDraft l z D cA q4 M _ h) rfl ⟨rfl, rfl⟩ ⟨Nat.le_of_ble_eq_true rfl, Nat.le_of_ble_eq_true rfl⟩ ⟨(Nat.le_of_ble_eq_true rfl), (Nat.le_of_ble_eq_true rfl)⟩ (Nat.le_of_ble_eq_true rfl) rfl dX5_readEnd_23 (x_pure (fun r5 h => ?_))
    refine x_if_eq (tgt := 39) E dX5_readEnd_26 (by decide) (fun c7 => ?_) (fun c7 => ?_)
    · replace h := xbr_t h c7
      clear c7
      refine x_aload_n E dX5_readEnd_39 rfl 0 rfl ?_
      obtain ⟨hT, q8, hv, h⟩ := h
      refine x_get E flX5_15 dX5_readEnd_40 hT hv ?_
      clear hT hv
      refine x_callVv (T := TX2) (N := 4) (t := 3) (As := []) E mlX5_160 inX2_endDraft seX2_endDraft rfl ⟨by decide, by decide⟩ (tX2_endDraft h) (kX2_endDraft l z D cA q8 M _ h) rfl ⟨rfl, rfl⟩ ⟨Nat.le_of_ble_eq_true rfl, Nat.le_of_ble_eq_true rfl⟩ ⟨(Nat.le_of_ble_eq_true rfl), (Nat.le_of_ble_eq_true rfl)⟩ (Nat.le_of_ble_eq_true rfl) rfl dX5_readEnd_43 (fun M10 h => ?_)
      refine x_aload_n E dX5_readEnd_46 rfl 0 rfl ?_
      refine x_dup E dX5_readEnd_47 rfl ?_
      obtain ⟨hT, v11, hv, h⟩ := h
      refine x_get E flX5_29 dX5_readEnd_48 hT hv ?_
      clear hT hv
      refine x_iconst (v := (J 1)) E dX5_readEnd_51 (by decide) ?_
      refine x_iadd E dX5_readEnd_52 ?_
      obtain ⟨hT, h⟩ := h
      refine x_put E flX5_29 ⟨tyX5_ok, nmX5, rfl⟩ (by decide +kernel) rfl rfl dX5_readEnd_53 hT (fun M12 eM12 => ?_)
      replace h := h M12 eM12
      clear hT eM12
      refine x_iconst (v := (J 1)) E dX5_readEnd_56 (by decide) ?_
      exact x_zret E hr hlk dX5_readEnd_57 h.1 h.2
    · replace h := xbr_f h c7
      clear c7
      refine x_aload_n E dX5_readEnd_29 rfl 0 rfl ?_
      refine x_iconst (v := (J 5)) E dX5_readEnd_30 (by decide) ?_
      refine x_aload_n E dX5_readEnd_31 rfl 0 rfl ?_
      obtain ⟨hT, v13, hv, h⟩ := h
      refine x_get E flX5_29 dX5_readEnd_32 hT hv ?_
      clear hT hv
      refine x_callVi (T := TX5) (N := 8) (t := 6) (As := [.int (J 5), .int v13]) E mlX5_83 inX5_fail seX5_fail rfl ⟨by decide, by decide⟩ (tX5_fail h) (kX5_fail l z D cA a0 (J 5) v13 M _ h) rfl ⟨rfl, rfl⟩ ⟨Nat.le_of_ble_eq_true rfl, Nat.le_of_ble_eq_true rfl⟩ ⟨(Nat.le_of_ble_eq_true rfl), (Nat.le_of_ble_eq_true rfl)⟩ (Nat.le_of_ble_eq_true rfl) rfl dX5_readEnd_35 (fun r14 M15 h => ?_)
      exact x_zret E hr hlk dX5_readEnd_38 h.1 h.2
  · replace h := xbr_f h c3
    clear c3
    refine x_aload_n E dX5_readEnd_9 rfl 0 rfl ?_
    refine x_iconst (v := (J 1)) E dX5_readEnd_10 (by decide) ?_
    refine x_aload_n E dX5_readEnd_11 rfl 0 rfl ?_
    obtain ⟨hT, v16, hv, h⟩ := h
    refine x_get E flX5_29 dX5_readEnd_12 hT hv ?_
    clear hT hv
    refine x_callVi (T := TX5) (N := 8) (t := 6) (As := [.int (J 1), .int v16]) E mlX5_83 inX5_fail seX5_fail rfl ⟨by decide, by decide⟩ (tX5_fail h) (kX5_fail l z D cA a0 (J 1) v16 M _ h) rfl ⟨rfl, rfl⟩ ⟨Nat.le_of_ble_eq_true rfl, Nat.le_of_ble_eq_true rfl⟩ ⟨(Nat.le_of_ble_eq_true rfl), (Nat.le_of_ble_eq_true rfl)⟩ (Nat.le_of_ble_eq_true rfl) rfl dX5_readEnd_15 (fun r17 M18 h => ?_)
    exact x_zret E hr hlk dX5_readEnd_18 h.1 h.2
theorem dX5_readClause_0 : decode cX5_readClause 0 = .ok (.aload_n 0, 1) := by decide +kernel
theorem dX5_readClause_1 : decode cX5_readClause 1 = .ok (.invokevirtual 58, 3) := by decide +kernel
theorem dX5_readClause_4 : decode cX5_readClause 4 = .ok (.ifCond .eq 42, 3) := by decide +kernel
theorem dX5_readClause_7 : decode cX5_readClause 7 = .ok (.aload_n 0, 1) := by decide +kernel
theorem dX5_readClause_8 : decode cX5_readClause 8 = .ok (.invokevirtual 61, 3) := by decide +kernel
theorem dX5_readClause_11 : decode cX5_readClause 11 = .ok (.ifCond .eq 35, 3) := by decide +kernel
theorem dX5_readClause_14 : decode cX5_readClause 14 = .ok (.aload_n 0, 1) := by decide +kernel
theorem dX5_readClause_15 : decode cX5_readClause 15 = .ok (.invokevirtual 64, 3) := by decide +kernel
theorem dX5_readClause_18 : decode cX5_readClause 18 = .ok (.ifCond .eq 28, 3) := by decide +kernel
theorem dX5_readClause_21 : decode cX5_readClause 21 = .ok (.aload_n 0, 1) := by decide +kernel
theorem dX5_readClause_22 : decode cX5_readClause 22 = .ok (.invokevirtual 67, 3) := by decide +kernel
theorem dX5_readClause_25 : decode cX5_readClause 25 = .ok (.ifCond .eq 21, 3) := by decide +kernel
theorem dX5_readClause_28 : decode cX5_readClause 28 = .ok (.aload_n 0, 1) := by decide +kernel
theorem dX5_readClause_29 : decode cX5_readClause 29 = .ok (.invokevirtual 70, 3) := by decide +kernel
theorem dX5_readClause_32 : decode cX5_readClause 32 = .ok (.ifCond .eq 14, 3) := by decide +kernel
theorem dX5_readClause_35 : decode cX5_readClause 35 = .ok (.aload_n 0, 1) := by decide +kernel
theorem dX5_readClause_36 : decode cX5_readClause 36 = .ok (.invokevirtual 73, 3) := by decide +kernel
theorem dX5_readClause_39 : decode cX5_readClause 39 = .ok (.ifCond .eq 7, 3) := by decide +kernel
theorem dX5_readClause_42 : decode cX5_readClause 42 = .ok (.iconst 1, 1) := by decide +kernel
theorem dX5_readClause_43 : decode cX5_readClause 43 = .ok (.goto 4, 3) := by decide +kernel
theorem dX5_readClause_46 : decode cX5_readClause 46 = .ok (.iconst 0, 1) := by decide +kernel
theorem dX5_readClause_47 : decode cX5_readClause 47 = .ok (.ireturn, 1) := by decide +kernel
set_option maxHeartbeats 4000000 in
set_option maxRecDepth 100000 in
theorem kX5_readClause (l : Launch) (z : Nat) (D : va_G) (cA : Nat → ClassId) (a0 : Nat) (M : Mem) (K : Int32 → Mem → Prop) (h : PX5_readClause a0 M K) : Met l yX5_readClause (.code yX5_readClause cX5_readClause 1 (some .boolean) :: gtbl) ({ frames := 4, cells := 0, slots := 0, locals := 88 } : Room) (va_Pc [.ref a0] (xB z D cA M)) (va_Qi K (xWd z D cA) (xA z)) 0 0 (xA z) := by
  refine x_met (by decide +kernel) (Nat.le_of_ble_eq_true rfl) (L0 := [(0, .ref a0)]) rfl ?_
  intro p e s m args below meth c E hr hlk hnm
  have E : xE RX5 cX5_readClause 1 D cA p s m args c := E
  replace h := h.2
  refine x_aload_n E dX5_readClause_0 rfl 0 rfl ?_
  refine x_callVi (T := TX5) (N := 8) (t := 6) (As := []) E mlX5_58 inX5_readClass seX5_readClass rfl ⟨by decide, by decide⟩ (tX5_readClass h) (kX5_readClass l z D cA a0 M _ h) rfl ⟨rfl, rfl⟩ ⟨Nat.le_of_ble_eq_true rfl, Nat.le_of_ble_eq_true rfl⟩ ⟨(Nat.le_of_ble_eq_true rfl), (Nat.le_of_ble_eq_true rfl)⟩ (Nat.le_of_ble_eq_true rfl) rfl dX5_readClause_1 (fun r1 M2 h => ?_)
  refine x_if_eq (tgt := 46) E dX5_readClause_4 (by decide) (fun c3 => ?_) (fun c3 => ?_)
  · replace h := xbr_t h c3
    clear c3
    refine x_iconst (v := (J 0)) E dX5_readClause_46 (by decide) ?_
    exact x_zret E hr hlk dX5_readClause_47 h.1 h.2
  · replace h := xbr_f h c3
    clear c3
    refine x_aload_n E dX5_readClause_7 rfl 0 rfl ?_
    refine x_callVi (T := TX5) (N := 8) (t := 6) (As := []) E mlX5_61 inX5_readNumber seX5_readNumber rfl ⟨by decide, by decide⟩ (tX5_readNumber h) (kX5_readNumber l z D cA a0 M2 _ h) rfl ⟨rfl, rfl⟩ ⟨Nat.le_of_ble_eq_true rfl, Nat.le_of_ble_eq_true rfl⟩ ⟨(Nat.le_of_ble_eq_true rfl), (Nat.le_of_ble_eq_true rfl)⟩ (Nat.le_of_ble_eq_true rfl) rfl dX5_readClause_8 (fun r4 M5 h => ?_)
    refine x_if_eq (tgt := 46) E dX5_readClause_11 (by decide) (fun c6 => ?_) (fun c6 => ?_)
    · replace h := xbr_t h c6
      clear c6
      refine x_iconst (v := (J 0)) E dX5_readClause_46 (by decide) ?_
      exact x_zret E hr hlk dX5_readClause_47 h.1 h.2
    · replace h := xbr_f h c6
      clear c6
      refine x_aload_n E dX5_readClause_14 rfl 0 rfl ?_
      refine x_callVi (T := TX5) (N := 8) (t := 6) (As := []) E mlX5_64 inX5_readDecimals seX5_readDecimals rfl ⟨by decide, by decide⟩ (tX5_readDecimals h) (kX5_readDecimals l z D cA a0 M5 _ h) rfl ⟨rfl, rfl⟩ ⟨Nat.le_of_ble_eq_true rfl, Nat.le_of_ble_eq_true rfl⟩ ⟨(Nat.le_of_ble_eq_true rfl), (Nat.le_of_ble_eq_true rfl)⟩ (Nat.le_of_ble_eq_true rfl) rfl dX5_readClause_15 (fun r7 M8 h => ?_)
      refine x_if_eq (tgt := 46) E dX5_readClause_18 (by decide) (fun c9 => ?_) (fun c9 => ?_)
      · replace h := xbr_t h c9
        clear c9
        refine x_iconst (v := (J 0)) E dX5_readClause_46 (by decide) ?_
        exact x_zret E hr hlk dX5_readClause_47 h.1 h.2
      · replace h := xbr_f h c9
        clear c9
        refine x_aload_n E dX5_readClause_21 rfl 0 rfl ?_
        refine x_callVi (T := TX5) (N := 8) (t := 6) (As := []) E mlX5_67 inX5_readCutter seX5_readCutter rfl ⟨by decide, by decide⟩ (tX5_readCutter h) (kX5_readCutter l z D cA a0 M8 _ h) rfl ⟨rfl, rfl⟩ ⟨Nat.le_of_ble_eq_true rfl, Nat.le_of_ble_eq_true rfl⟩ ⟨(Nat.le_of_ble_eq_true rfl), (Nat.le_of_ble_eq_true rfl)⟩ (Nat.le_of_ble_eq_true rfl) rfl dX5_readClause_22 (fun r10 M11 h => ?_)
        refine x_if_eq (tgt := 46) E dX5_readClause_25 (by decide) (fun c12 => ?_) (fun c12 => ?_)
        · replace h := xbr_t h c12
          clear c12
          refine x_iconst (v := (J 0)) E dX5_readClause_46 (by decide) ?_
          exact x_zret E hr hlk dX5_readClause_47 h.1 h.2
        · replace h := xbr_f h c12
          clear c12
          refine x_aload_n E dX5_readClause_28 rfl 0 rfl ?_
          refine x_callVi (T := TX5) (N := 8) (t := 6) (As := []) E mlX5_70 inX5_readBehindBlanks seX5_readBehindBlanks rfl ⟨by decide, by decide⟩ (tX5_readBehindBlanks h) (kX5_readBehindBlanks l z D cA a0 M11 _ h) rfl ⟨rfl, rfl⟩ ⟨Nat.le_of_ble_eq_true rfl, Nat.le_of_ble_eq_true rfl⟩ ⟨(Nat.le_of_ble_eq_true rfl), (Nat.le_of_ble_eq_true rfl)⟩ (Nat.le_of_ble_eq_true rfl) rfl dX5_readClause_29 (fun r13 M14 h => ?_)
          refine x_if_eq (tgt := 46) E dX5_readClause_32 (by decide) (fun c15 => ?_) (fun c15 => ?_)
          · replace h := xbr_t h c15
            clear c15
            refine x_iconst (v := (J 0)) E dX5_readClause_46 (by decide) ?_
            exact x_zret E hr hlk dX5_readClause_47 h.1 h.2
          · replace h := xbr_f h c15
            clear c15
            refine x_aload_n E dX5_readClause_35 rfl 0 rfl ?_
            refine x_callVi (T := TX5) (N := 8) (t := 6) (As := []) E mlX5_73 inX5_readEnd seX5_readEnd rfl ⟨by decide, by decide⟩ (tX5_readEnd h) (kX5_readEnd l z D cA a0 M14 _ h) rfl ⟨rfl, rfl⟩ ⟨Nat.le_of_ble_eq_true rfl, Nat.le_of_ble_eq_true rfl⟩ ⟨(Nat.le_of_ble_eq_true rfl), (Nat.le_of_ble_eq_true rfl)⟩ (Nat.le_of_ble_eq_true rfl) rfl dX5_readClause_36 (fun r16 M17 h => ?_)
            refine x_if_eq (tgt := 46) E dX5_readClause_39 (by decide) (fun c18 => ?_) (fun c18 => ?_)
            · replace h := xbr_t h c18
              clear c18
              refine x_iconst (v := (J 0)) E dX5_readClause_46 (by decide) ?_
              exact x_zret E hr hlk dX5_readClause_47 h.1 h.2
            · replace h := xbr_f h c18
              clear c18
              refine x_iconst (v := (J 1)) E dX5_readClause_42 (by decide) ?_
              refine x_goto (tgt := 47) E dX5_readClause_43 (by decide) ?_
              exact x_zret E hr hlk dX5_readClause_47 h.1 h.2
theorem dX5_parse_0 : decode cX5_parse 0 = .ok (.aload_n 0, 1) := by decide +kernel
theorem dX5_parse_1 : decode cX5_parse 1 = .ok (.invokevirtual 45, 3) := by decide +kernel
theorem dX5_parse_4 : decode cX5_parse 4 = .ok (.pop, 1) := by decide +kernel
theorem dX5_parse_5 : decode cX5_parse 5 = .ok (.iconst 0, 1) := by decide +kernel
theorem dX5_parse_6 : decode cX5_parse 6 = .ok (.istore_n 1, 1) := by decide +kernel
theorem dX5_parse_7 : decode cX5_parse 7 = .ok (.iload_n 1, 1) := by decide +kernel
theorem dX5_parse_8 : decode cX5_parse 8 = .ok (.sipush 600, 3) := by decide +kernel
theorem dX5_parse_11 : decode cX5_parse 11 = .ok (.if_icmp .ge 40, 3) := by decide +kernel
theorem dX5_parse_14 : decode cX5_parse 14 = .ok (.aload_n 0, 1) := by decide +kernel
theorem dX5_parse_15 : decode cX5_parse 15 = .ok (.getfield 29, 3) := by decide +kernel
theorem dX5_parse_18 : decode cX5_parse 18 = .ok (.aload_n 0, 1) := by decide +kernel
theorem dX5_parse_19 : decode cX5_parse 19 = .ok (.getfield 9, 3) := by decide +kernel
theorem dX5_parse_22 : decode cX5_parse 22 = .ok (.invokevirtual 49, 3) := by decide +kernel
theorem dX5_parse_25 : decode cX5_parse 25 = .ok (.if_icmp .ge 26, 3) := by decide +kernel
theorem dX5_parse_28 : decode cX5_parse 28 = .ok (.aload_n 0, 1) := by decide +kernel
theorem dX5_parse_29 : decode cX5_parse 29 = .ok (.invokevirtual 55, 3) := by decide +kernel
theorem dX5_parse_32 : decode cX5_parse 32 = .ok (.ifCond .ne 8, 3) := by decide +kernel
theorem dX5_parse_35 : decode cX5_parse 35 = .ok (.aload_n 0, 1) := by decide +kernel
theorem dX5_parse_36 : decode cX5_parse 36 = .ok (.getfield 33, 3) := by decide +kernel
theorem dX5_parse_39 : decode cX5_parse 39 = .ok (.ireturn, 1) := by decide +kernel
theorem dX5_parse_40 : decode cX5_parse 40 = .ok (.aload_n 0, 1) := by decide +kernel
theorem dX5_parse_41 : decode cX5_parse 41 = .ok (.invokevirtual 45, 3) := by decide +kernel
theorem dX5_parse_44 : decode cX5_parse 44 = .ok (.pop, 1) := by decide +kernel
theorem dX5_parse_45 : decode cX5_parse 45 = .ok (.iinc 1 1, 3) := by decide +kernel
theorem dX5_parse_48 : decode cX5_parse 48 = .ok (.goto (-41), 3) := by decide +kernel
theorem dX5_parse_51 : decode cX5_parse 51 = .ok (.iconst 0, 1) := by decide +kernel
theorem dX5_parse_52 : decode cX5_parse 52 = .ok (.ireturn, 1) := by decide +kernel
set_option maxHeartbeats 4000000 in
set_option maxRecDepth 100000 in
theorem kX5_parse (l : Launch) (z : Nat) (D : va_G) (cA : Nat → ClassId) (a0 : Nat) (M : Mem) (K : Int32 → Mem → Prop) (h : PX5_parse a0 M K) : Met l yX5_parse (.code yX5_parse cX5_parse 2 (some .int) :: gtbl) ({ frames := 5, cells := 0, slots := 0, locals := 108 } : Room) (va_Pc [.ref a0] (xB z D cA M)) (va_Qi K (xWd z D cA) (xA z)) 0 0 (xA z) := by
  refine x_met (by decide +kernel) (Nat.le_of_ble_eq_true rfl) (L0 := [(0, .ref a0)]) rfl ?_
  intro p e s m args below meth c E hr hlk hnm
  have E : xE RX5 cX5_parse 2 D cA p s m args c := E
  replace h := h.2
  refine x_aload_n E dX5_parse_0 rfl 0 rfl ?_
  refine x_callVi (T := TX5) (N := 8) (t := 6) (As := []) E mlX5_45 inX5_skipBlanks seX5_skipBlanks rfl ⟨by decide, by decide⟩ (tX5_skipBlanks h) (kX5_skipBlanks l z D cA a0 M _ h) rfl ⟨rfl, rfl⟩ ⟨Nat.le_of_ble_eq_true rfl, Nat.le_of_ble_eq_true rfl⟩ ⟨(Nat.le_of_ble_eq_true rfl), (Nat.le_of_ble_eq_true rfl)⟩ (Nat.le_of_ble_eq_true rfl) rfl dX5_parse_1 (fun r1 M2 h => ?_)
  refine x_pop E dX5_parse_4 rfl ?_
  refine x_iconst (v := (J 0)) E dX5_parse_5 (by decide) ?_
  refine x_istore_n (L' := [(1, .int (J 0)), (0, .ref a0)]) E dX5_parse_6 rfl (by decide) rfl ?_
  refine x_sub (L' := [(0, .ref a0), (1, .int (J 0))]) [1, 0] rfl ?_
  refine lp_sound (T := fun sv => xG p l e ({ frames := 5, cells := 0, slots := 0, locals := 108 } : Room) s m args below meth c (MQ below (va_Qi K (xWd z D cA) (xA z)) args s 0 0 (xA z)) 2 z D cA sv.1 (0) (0) 7 [(0, .ref a0), (1, .int sv.2)] []) ?_ (M2, (J 0)) h
  clear h
  intro kc7 hk7 sv h
  obtain ⟨M, x1⟩ := sv
  replace h : CX5_parse_7 K a0 kc7 M x1 := h
  try dsimp only
  refine x_iload_n E dX5_parse_7 rfl 1 rfl ?_
  refine x_sipush (v := (J 600)) E dX5_parse_8 (by decide) ?_
  refine x_icmp_ge (tgt := 51) E dX5_parse_11 (by decide) (fun c3 => ?_) (fun c3 => ?_)
  · replace h := xbr_t h c3
    clear c3
    refine x_iconst (v := (J 0)) E dX5_parse_51 (by decide) ?_
    exact x_iret E hr hlk dX5_parse_52 h
  · replace h := xbr_f h c3
    clear c3
    refine x_aload_n E dX5_parse_14 rfl 0 rfl ?_
    obtain ⟨hT, v4, hv, h⟩ := h
    refine x_get E flX5_29 dX5_parse_15 hT hv ?_
    clear hT hv
    refine x_aload_n E dX5_parse_18 rfl 0 rfl ?_
    obtain ⟨hT, q5, hv, h⟩ := h
    refine x_get E flX5_9 dX5_parse_19 hT hv ?_
    clear hT hv
    refine x_callVi (T := TX1) (N := 2) (t := 2) (As := []) E mlX5_49 inX1_size seX1_size rfl ⟨by decide, by decide⟩ (tX1_size h) (kX1_size l z D cA q5 M _ h) rfl ⟨rfl, rfl⟩ ⟨Nat.le_of_ble_eq_true rfl, Nat.le_of_ble_eq_true rfl⟩ ⟨(Nat.le_of_ble_eq_true rfl), (Nat.le_of_ble_eq_true rfl)⟩ (Nat.le_of_ble_eq_true rfl) rfl dX5_parse_22 (x_pure (fun r6 h => ?_))
    refine x_icmp_ge (tgt := 51) E dX5_parse_25 (by decide) (fun c8 => ?_) (fun c8 => ?_)
    · replace h := xbr_t h c8
      clear c8
      refine x_iconst (v := (J 0)) E dX5_parse_51 (by decide) ?_
      exact x_iret E hr hlk dX5_parse_52 h
    · replace h := xbr_f h c8
      clear c8
      refine x_aload_n E dX5_parse_28 rfl 0 rfl ?_
      refine x_callVi (T := TX5) (N := 8) (t := 6) (As := []) E mlX5_55 inX5_readClause seX5_readClause rfl ⟨by decide, by decide⟩ (tX5_readClause h) (kX5_readClause l z D cA a0 M _ h) rfl ⟨rfl, rfl⟩ ⟨Nat.le_of_ble_eq_true rfl, Nat.le_of_ble_eq_true rfl⟩ ⟨(Nat.le_of_ble_eq_true rfl), (Nat.le_of_ble_eq_true rfl)⟩ (Nat.le_of_ble_eq_true rfl) rfl dX5_parse_29 (fun r9 M10 h => ?_)
      refine x_if_ne (tgt := 40) E dX5_parse_32 (by decide) (fun c11 => ?_) (fun c11 => ?_)
      · replace h := xbr_f h c11
        clear c11
        refine x_aload_n E dX5_parse_40 rfl 0 rfl ?_
        refine x_callVi (T := TX5) (N := 8) (t := 6) (As := []) E mlX5_45 inX5_skipBlanks seX5_skipBlanks rfl ⟨by decide, by decide⟩ (tX5_skipBlanks h) (kX5_skipBlanks l z D cA a0 M10 _ h) rfl ⟨rfl, rfl⟩ ⟨Nat.le_of_ble_eq_true rfl, Nat.le_of_ble_eq_true rfl⟩ ⟨(Nat.le_of_ble_eq_true rfl), (Nat.le_of_ble_eq_true rfl)⟩ (Nat.le_of_ble_eq_true rfl) rfl dX5_parse_41 (fun r12 M13 h => ?_)
        refine x_pop E dX5_parse_44 rfl ?_
        refine x_iinc (v := (x1 + (J 1))) (L' := [(1, .int (x1 + (J 1))), (0, .ref a0)]) E dX5_parse_45 1 rfl rfl (by decide) rfl ?_
        refine x_goto (tgt := 7) E dX5_parse_48 (by decide) ?_
        refine x_sub (L' := [(0, .ref a0), (1, .int (x1 + (J 1)))]) [1, 0] rfl ?_
        exact hk7 (M13, (x1 + (J 1))) h
      · replace h := xbr_t h c11
        clear c11
        refine x_aload_n E dX5_parse_35 rfl 0 rfl ?_
        obtain ⟨hT, v14, hv, h⟩ := h
        refine x_get E flX5_33 dX5_parse_36 hT hv ?_
        clear hT hv
        exact x_iret E hr hlk dX5_parse_39 h
theorem dX5_faultAt_0 : decode cX5_faultAt 0 = .ok (.aload_n 0, 1) := by decide +kernel
theorem dX5_faultAt_1 : decode cX5_faultAt 1 = .ok (.getfield 36, 3) := by decide +kernel
theorem dX5_faultAt_4 : decode cX5_faultAt 4 = .ok (.ireturn, 1) := by decide +kernel
set_option maxHeartbeats 4000000 in
set_option maxRecDepth 100000 in
theorem kX5_faultAt (l : Launch) (z : Nat) (D : va_G) (cA : Nat → ClassId) (a0 : Nat) (M : Mem) (K : Int32 → Prop) (h : PX5_faultAt a0 M K) : Met l yX5_faultAt (.code yX5_faultAt cX5_faultAt 1 (some .int) :: gtbl) ({ frames := 0, cells := 0, slots := 0, locals := 0 } : Room) (va_Pc [.ref a0] (xB z D cA M)) (va_Qi (fun r M1 => M1 = M ∧ K r) (xWd z D cA) (xA z)) 0 0 (xA z) := by
  refine x_met (by decide +kernel) (Nat.le_of_ble_eq_true rfl) (L0 := [(0, .ref a0)]) rfl ?_
  intro p e s m args below meth c E hr hlk hnm
  have E : xE RX5 cX5_faultAt 1 D cA p s m args c := E
  replace h := h.2
  refine x_aload_n E dX5_faultAt_0 rfl 0 rfl ?_
  obtain ⟨hT, v1, hv, h⟩ := h
  refine x_get E flX5_36 dX5_faultAt_1 hT hv ?_
  clear hT hv
  exact x_iret E hr hlk dX5_faultAt_4 ⟨rfl, h⟩
theorem dX6_size_0 : decode cX6_size 0 = .ok (.aload_n 0, 1) := by decide +kernel
theorem dX6_size_1 : decode cX6_size 1 = .ok (.getfield 21, 3) := by decide +kernel
theorem dX6_size_4 : decode cX6_size 4 = .ok (.ireturn, 1) := by decide +kernel
set_option maxHeartbeats 4000000 in
set_option maxRecDepth 100000 in
theorem kX6_size (l : Launch) (z : Nat) (D : va_G) (cA : Nat → ClassId) (a0 : Nat) (M : Mem) (K : Int32 → Prop) (h : PX6_size a0 M K) : Met l yX6_size (.code yX6_size cX6_size 1 (some .int) :: gtbl) ({ frames := 0, cells := 0, slots := 0, locals := 0 } : Room) (va_Pc [.ref a0] (xB z D cA M)) (va_Qi (fun r M1 => M1 = M ∧ K r) (xWd z D cA) (xA z)) 0 0 (xA z) := by
  refine x_met (by decide +kernel) (Nat.le_of_ble_eq_true rfl) (L0 := [(0, .ref a0)]) rfl ?_
  intro p e s m args below meth c E hr hlk hnm
  have E : xE RX6 cX6_size 1 D cA p s m args c := E
  replace h := h.2
  refine x_aload_n E dX6_size_0 rfl 0 rfl ?_
  obtain ⟨hT, v1, hv, h⟩ := h
  refine x_get E flX6_21 dX6_size_1 hT hv ?_
  clear hT hv
  exact x_iret E hr hlk dX6_size_4 ⟨rfl, h⟩
theorem dX6_stands_0 : decode cX6_stands 0 = .ok (.aload_n 0, 1) := by decide +kernel
theorem dX6_stands_1 : decode cX6_stands 1 = .ok (.iload_n 1, 1) := by decide +kernel
theorem dX6_stands_2 : decode cX6_stands 2 = .ok (.invokevirtual 33, 3) := by decide +kernel
theorem dX6_stands_5 : decode cX6_stands 5 = .ok (.iconst (-1), 1) := by decide +kernel
theorem dX6_stands_6 : decode cX6_stands 6 = .ok (.if_icmp .eq 7, 3) := by decide +kernel
theorem dX6_stands_9 : decode cX6_stands 9 = .ok (.iconst 1, 1) := by decide +kernel
theorem dX6_stands_10 : decode cX6_stands 10 = .ok (.goto 4, 3) := by decide +kernel
theorem dX6_stands_13 : decode cX6_stands 13 = .ok (.iconst 0, 1) := by decide +kernel
theorem dX6_stands_14 : decode cX6_stands 14 = .ok (.ireturn, 1) := by decide +kernel
set_option maxHeartbeats 4000000 in
set_option maxRecDepth 100000 in
theorem kX6_stands (l : Launch) (z : Nat) (D : va_G) (cA : Nat → ClassId) (a0 : Nat) (x1 : Int32) (M : Mem) (K : Int32 → Prop) (h : PX6_stands a0 x1 M K) : Met l yX6_stands (.code yX6_stands cX6_stands 2 (some .boolean) :: gtbl) ({ frames := 1, cells := 0, slots := 0, locals := 21 } : Room) (va_Pc [.ref a0, .int x1] (xB z D cA M)) (va_Qi (fun r M1 => M1 = M ∧ K r) (xWd z D cA) (xA z)) 0 0 (xA z) := by
  refine x_met (by decide +kernel) (Nat.le_of_ble_eq_true rfl) (L0 := [(0, .ref a0), (1, .int x1)]) rfl ?_
  intro p e s m args below meth c E hr hlk hnm
  have E : xE RX6 cX6_stands 2 D cA p s m args c := E
  replace h := h.2
  refine x_aload_n E dX6_stands_0 rfl 0 rfl ?_
  refine x_iload_n E dX6_stands_1 rfl 1 rfl ?_
  refine x_callVi (T := TX6) (N := 3) (t := 7) (As := [.int x1]) E mlX6_33 inX6_shelfOf seX6_shelfOf rfl ⟨by decide, by decide⟩ (tX6_shelfOf h) (kX6_shelfOf l z D cA a0 x1 M _ h) rfl ⟨rfl, rfl⟩ ⟨Nat.le_of_ble_eq_true rfl, Nat.le_of_ble_eq_true rfl⟩ ⟨(Nat.le_of_ble_eq_true rfl), (Nat.le_of_ble_eq_true rfl)⟩ (Nat.le_of_ble_eq_true rfl) rfl dX6_stands_2 (x_pure (fun r1 h => ?_))
  refine x_iconst (v := (J (-1))) E dX6_stands_5 (by decide) ?_
  refine x_icmp_eq (tgt := 13) E dX6_stands_6 (by decide) (fun c3 => ?_) (fun c3 => ?_)
  · replace h := xbr_t h c3
    clear c3
    refine x_iconst (v := (J 0)) E dX6_stands_13 (by decide) ?_
    exact x_zret E hr hlk dX6_stands_14 h.1 ⟨rfl, h.2⟩
  · replace h := xbr_f h c3
    clear c3
    refine x_iconst (v := (J 1)) E dX6_stands_9 (by decide) ?_
    refine x_goto (tgt := 14) E dX6_stands_10 (by decide) ?_
    exact x_zret E hr hlk dX6_stands_14 h.1 ⟨rfl, h.2⟩
theorem dX6_indexOf_0 : decode cX6_indexOf 0 = .ok (.iconst 0, 1) := by decide +kernel
theorem dX6_indexOf_1 : decode cX6_indexOf 1 = .ok (.istore_n 2, 1) := by decide +kernel
theorem dX6_indexOf_2 : decode cX6_indexOf 2 = .ok (.iload_n 2, 1) := by decide +kernel
theorem dX6_indexOf_3 : decode cX6_indexOf 3 = .ok (.aload_n 0, 1) := by decide +kernel
theorem dX6_indexOf_4 : decode cX6_indexOf 4 = .ok (.getfield 21, 3) := by decide +kernel
theorem dX6_indexOf_7 : decode cX6_indexOf 7 = .ok (.if_icmp .ge 20, 3) := by decide +kernel
theorem dX6_indexOf_10 : decode cX6_indexOf 10 = .ok (.aload_n 0, 1) := by decide +kernel
theorem dX6_indexOf_11 : decode cX6_indexOf 11 = .ok (.iload_n 2, 1) := by decide +kernel
theorem dX6_indexOf_12 : decode cX6_indexOf 12 = .ok (.invokevirtual 37, 3) := by decide +kernel
theorem dX6_indexOf_15 : decode cX6_indexOf 15 = .ok (.iload_n 1, 1) := by decide +kernel
theorem dX6_indexOf_16 : decode cX6_indexOf 16 = .ok (.if_icmp .ne 5, 3) := by decide +kernel
theorem dX6_indexOf_19 : decode cX6_indexOf 19 = .ok (.iload_n 2, 1) := by decide +kernel
theorem dX6_indexOf_20 : decode cX6_indexOf 20 = .ok (.ireturn, 1) := by decide +kernel
theorem dX6_indexOf_21 : decode cX6_indexOf 21 = .ok (.iinc 2 1, 3) := by decide +kernel
theorem dX6_indexOf_24 : decode cX6_indexOf 24 = .ok (.goto (-22), 3) := by decide +kernel
theorem dX6_indexOf_27 : decode cX6_indexOf 27 = .ok (.iconst (-1), 1) := by decide +kernel
theorem dX6_indexOf_28 : decode cX6_indexOf 28 = .ok (.ireturn, 1) := by decide +kernel
set_option maxHeartbeats 4000000 in
set_option maxRecDepth 100000 in
theorem kX6_indexOf (l : Launch) (z : Nat) (D : va_G) (cA : Nat → ClassId) (a0 : Nat) (x1 : Int32) (M : Mem) (K : Int32 → Prop) (h : PX6_indexOf a0 x1 M K) : Met l yX6_indexOf (.code yX6_indexOf cX6_indexOf 3 (some .int) :: gtbl) ({ frames := 1, cells := 0, slots := 0, locals := 21 } : Room) (va_Pc [.ref a0, .int x1] (xB z D cA M)) (va_Qi (fun r M1 => M1 = M ∧ K r) (xWd z D cA) (xA z)) 0 0 (xA z) := by
  refine x_met (by decide +kernel) (Nat.le_of_ble_eq_true rfl) (L0 := [(0, .ref a0), (1, .int x1)]) rfl ?_
  intro p e s m args below meth c E hr hlk hnm
  have E : xE RX6 cX6_indexOf 3 D cA p s m args c := E
  replace h := h.2
  refine x_iconst (v := (J 0)) E dX6_indexOf_0 (by decide) ?_
  refine x_istore_n (L' := [(2, .int (J 0)), (0, .ref a0), (1, .int x1)]) E dX6_indexOf_1 rfl (by decide) rfl ?_
  refine x_sub (L' := [(0, .ref a0), (1, .int x1), (2, .int (J 0))]) [1, 2, 0] rfl ?_
  refine lp_sound (T := fun sv => xG p l e ({ frames := 1, cells := 0, slots := 0, locals := 21 } : Room) s m args below meth c (MQ below (va_Qi (fun r M1 => M1 = M ∧ K r) (xWd z D cA) (xA z)) args s 0 0 (xA z)) 3 z D cA M (0) (0) 2 [(0, .ref a0), (1, .int x1), (2, .int sv)] []) ?_ (J 0) h
  clear h
  intro kc2 hk2 sv h
  obtain ⟨x2, esv⟩ : ∃ y, y = sv := ⟨_, rfl⟩
  subst esv
  replace h : CX6_indexOf_2 K M a0 x1 kc2 x2 := h
  try dsimp only
  refine x_iload_n E dX6_indexOf_2 rfl 2 rfl ?_
  refine x_aload_n E dX6_indexOf_3 rfl 0 rfl ?_
  obtain ⟨hT, v1, hv, h⟩ := h
  refine x_get E flX6_21 dX6_indexOf_4 hT hv ?_
  clear hT hv
  refine x_icmp_ge (tgt := 27) E dX6_indexOf_7 (by decide) (fun c2 => ?_) (fun c2 => ?_)
  · replace h := xbr_t h c2
    clear c2
    refine x_iconst (v := (J (-1))) E dX6_indexOf_27 (by decide) ?_
    exact x_iret E hr hlk dX6_indexOf_28 ⟨rfl, h⟩
  · replace h := xbr_f h c2
    clear c2
    refine x_aload_n E dX6_indexOf_10 rfl 0 rfl ?_
    refine x_iload_n E dX6_indexOf_11 rfl 2 rfl ?_
    refine x_callVi (T := TX6) (N := 3) (t := 7) (As := [.int x2]) E mlX6_37 inX6_bookAt seX6_bookAt rfl ⟨by decide, by decide⟩ (tX6_bookAt h) (kX6_bookAt l z D cA a0 x2 M _ h) rfl ⟨rfl, rfl⟩ ⟨Nat.le_of_ble_eq_true rfl, Nat.le_of_ble_eq_true rfl⟩ ⟨(Nat.le_of_ble_eq_true rfl), (Nat.le_of_ble_eq_true rfl)⟩ (Nat.le_of_ble_eq_true rfl) rfl dX6_indexOf_12 (x_pure (fun r3 h => ?_))
    refine x_iload_n E dX6_indexOf_15 rfl 1 rfl ?_
    refine x_icmp_ne (tgt := 21) E dX6_indexOf_16 (by decide) (fun c5 => ?_) (fun c5 => ?_)
    · replace h := xbr_f h c5
      clear c5
      refine x_iinc (v := (x2 + (J 1))) (L' := [(2, .int (x2 + (J 1))), (0, .ref a0), (1, .int x1)]) E dX6_indexOf_21 2 rfl rfl (by decide) rfl ?_
      refine x_goto (tgt := 2) E dX6_indexOf_24 (by decide) ?_
      refine x_sub (L' := [(0, .ref a0), (1, .int x1), (2, .int (x2 + (J 1)))]) [1, 2, 0] rfl ?_
      exact hk2 (x2 + (J 1)) h
    · replace h := xbr_t h c5
      clear c5
      refine x_iload_n E dX6_indexOf_19 rfl 2 rfl ?_
      exact x_iret E hr hlk dX6_indexOf_20 ⟨rfl, h⟩
theorem dX6_standing_0 : decode cX6_standing 0 = .ok (.iconst 0, 1) := by decide +kernel
theorem dX6_standing_1 : decode cX6_standing 1 = .ok (.istore_n 1, 1) := by decide +kernel
theorem dX6_standing_2 : decode cX6_standing 2 = .ok (.iconst 0, 1) := by decide +kernel
theorem dX6_standing_3 : decode cX6_standing 3 = .ok (.istore_n 2, 1) := by decide +kernel
theorem dX6_standing_4 : decode cX6_standing 4 = .ok (.iload_n 2, 1) := by decide +kernel
theorem dX6_standing_5 : decode cX6_standing 5 = .ok (.bipush 24, 2) := by decide +kernel
theorem dX6_standing_7 : decode cX6_standing 7 = .ok (.if_icmp .ge 23, 3) := by decide +kernel
theorem dX6_standing_10 : decode cX6_standing 10 = .ok (.aload_n 0, 1) := by decide +kernel
theorem dX6_standing_11 : decode cX6_standing 11 = .ok (.iload_n 2, 1) := by decide +kernel
theorem dX6_standing_12 : decode cX6_standing 12 = .ok (.invokevirtual 40, 3) := by decide +kernel
theorem dX6_standing_15 : decode cX6_standing 15 = .ok (.ifCond .eq 9, 3) := by decide +kernel
theorem dX6_standing_18 : decode cX6_standing 18 = .ok (.iload_n 1, 1) := by decide +kernel
theorem dX6_standing_19 : decode cX6_standing 19 = .ok (.iconst 1, 1) := by decide +kernel
theorem dX6_standing_20 : decode cX6_standing 20 = .ok (.iload_n 2, 1) := by decide +kernel
theorem dX6_standing_21 : decode cX6_standing 21 = .ok (.ishl, 1) := by decide +kernel
theorem dX6_standing_22 : decode cX6_standing 22 = .ok (.ior, 1) := by decide +kernel
theorem dX6_standing_23 : decode cX6_standing 23 = .ok (.istore_n 1, 1) := by decide +kernel
theorem dX6_standing_24 : decode cX6_standing 24 = .ok (.iinc 2 1, 3) := by decide +kernel
theorem dX6_standing_27 : decode cX6_standing 27 = .ok (.goto (-23), 3) := by decide +kernel
theorem dX6_standing_30 : decode cX6_standing 30 = .ok (.iload_n 1, 1) := by decide +kernel
theorem dX6_standing_31 : decode cX6_standing 31 = .ok (.ireturn, 1) := by decide +kernel
set_option maxHeartbeats 4000000 in
set_option maxRecDepth 100000 in
theorem kX6_standing (l : Launch) (z : Nat) (D : va_G) (cA : Nat → ClassId) (a0 : Nat) (M : Mem) (K : Int32 → Prop) (h : PX6_standing a0 M K) : Met l yX6_standing (.code yX6_standing cX6_standing 3 (some .int) :: gtbl) ({ frames := 2, cells := 0, slots := 0, locals := 42 } : Room) (va_Pc [.ref a0] (xB z D cA M)) (va_Qi (fun r M1 => M1 = M ∧ K r) (xWd z D cA) (xA z)) 0 0 (xA z) := by
  refine x_met (by decide +kernel) (Nat.le_of_ble_eq_true rfl) (L0 := [(0, .ref a0)]) rfl ?_
  intro p e s m args below meth c E hr hlk hnm
  have E : xE RX6 cX6_standing 3 D cA p s m args c := E
  replace h := h.2
  refine x_iconst (v := (J 0)) E dX6_standing_0 (by decide) ?_
  refine x_istore_n (L' := [(1, .int (J 0)), (0, .ref a0)]) E dX6_standing_1 rfl (by decide) rfl ?_
  refine x_iconst (v := (J 0)) E dX6_standing_2 (by decide) ?_
  refine x_istore_n (L' := [(2, .int (J 0)), (1, .int (J 0)), (0, .ref a0)]) E dX6_standing_3 rfl (by decide) rfl ?_
  refine x_sub (L' := [(0, .ref a0), (1, .int (J 0)), (2, .int (J 0))]) [2, 1, 0] rfl ?_
  refine lp_sound (T := fun sv => xG p l e ({ frames := 2, cells := 0, slots := 0, locals := 42 } : Room) s m args below meth c (MQ below (va_Qi (fun r M1 => M1 = M ∧ K r) (xWd z D cA) (xA z)) args s 0 0 (xA z)) 3 z D cA M (0) (0) 4 [(0, .ref a0), (1, .int sv.1), (2, .int sv.2)] []) ?_ ((J 0), (J 0)) h
  clear h
  intro kc4 hk4 sv h
  obtain ⟨x1, x2⟩ := sv
  replace h : CX6_standing_4 K M a0 kc4 x1 x2 := h
  try dsimp only
  refine x_iload_n E dX6_standing_4 rfl 2 rfl ?_
  refine x_bipush (v := (J 24)) E dX6_standing_5 (by decide) ?_
  refine x_icmp_ge (tgt := 30) E dX6_standing_7 (by decide) (fun c1 => ?_) (fun c1 => ?_)
  · replace h := xbr_t h c1
    clear c1
    refine x_iload_n E dX6_standing_30 rfl 1 rfl ?_
    exact x_iret E hr hlk dX6_standing_31 ⟨rfl, h⟩
  · replace h := xbr_f h c1
    clear c1
    refine x_aload_n E dX6_standing_10 rfl 0 rfl ?_
    refine x_iload_n E dX6_standing_11 rfl 2 rfl ?_
    refine x_callVi (T := TX6) (N := 3) (t := 7) (As := [.int x2]) E mlX6_40 inX6_stands seX6_stands rfl ⟨by decide, by decide⟩ (tX6_stands h) (kX6_stands l z D cA a0 x2 M _ h) rfl ⟨rfl, rfl⟩ ⟨Nat.le_of_ble_eq_true rfl, Nat.le_of_ble_eq_true rfl⟩ ⟨(Nat.le_of_ble_eq_true rfl), (Nat.le_of_ble_eq_true rfl)⟩ (Nat.le_of_ble_eq_true rfl) rfl dX6_standing_12 (x_pure (fun r2 h => ?_))
    refine x_if_eq (tgt := 24) E dX6_standing_15 (by decide) (fun c4 => ?_) (fun c4 => ?_)
    · replace h := xbr_t h c4
      clear c4
      refine x_iinc (v := (x2 + (J 1))) (L' := [(2, .int (x2 + (J 1))), (0, .ref a0), (1, .int x1)]) E dX6_standing_24 2 rfl rfl (by decide) rfl ?_
      refine x_goto (tgt := 4) E dX6_standing_27 (by decide) ?_
      refine x_sub (L' := [(0, .ref a0), (1, .int x1), (2, .int (x2 + (J 1)))]) [1, 2, 0] rfl ?_
      exact hk4 (x1, (x2 + (J 1))) h
    · replace h := xbr_f h c4
      clear c4
      refine x_iload_n E dX6_standing_18 rfl 1 rfl ?_
      refine x_iconst (v := (J 1)) E dX6_standing_19 (by decide) ?_
      refine x_iload_n E dX6_standing_20 rfl 2 rfl ?_
      refine x_ishl E dX6_standing_21 ?_
      refine x_ior E dX6_standing_22 ?_
      obtain ⟨y5, ey5, h⟩ := h
      refine x_top (v := .int y5) (congrArg _ ey5) ?_
      clear ey5
      refine x_istore_n (L' := [(1, .int y5), (0, .ref a0), (2, .int x2)]) E dX6_standing_23 rfl (by decide) rfl ?_
      refine x_iinc (v := (x2 + (J 1))) (L' := [(2, .int (x2 + (J 1))), (1, .int y5), (0, .ref a0)]) E dX6_standing_24 2 rfl rfl (by decide) rfl ?_
      refine x_goto (tgt := 4) E dX6_standing_27 (by decide) ?_
      refine x_sub (L' := [(0, .ref a0), (1, .int y5), (2, .int (x2 + (J 1)))]) [2, 1, 0] rfl ?_
      exact hk4 (y5, (x2 + (J 1))) h
theorem dX6_start_0 : decode cX6_start 0 = .ok (.iconst 0, 1) := by decide +kernel
theorem dX6_start_1 : decode cX6_start 1 = .ok (.istore_n 2, 1) := by decide +kernel
theorem dX6_start_2 : decode cX6_start 2 = .ok (.aload_n 0, 1) := by decide +kernel
theorem dX6_start_3 : decode cX6_start 3 = .ok (.getfield 15, 3) := by decide +kernel
theorem dX6_start_6 : decode cX6_start 6 = .ok (.astore_n 3, 1) := by decide +kernel
theorem dX6_start_7 : decode cX6_start 7 = .ok (.aload_n 3, 1) := by decide +kernel
theorem dX6_start_8 : decode cX6_start 8 = .ok (.arraylength, 1) := by decide +kernel
theorem dX6_start_9 : decode cX6_start 9 = .ok (.istore 4, 2) := by decide +kernel
theorem dX6_start_11 : decode cX6_start 11 = .ok (.iconst 0, 1) := by decide +kernel
theorem dX6_start_12 : decode cX6_start 12 = .ok (.istore 5, 2) := by decide +kernel
theorem dX6_start_14 : decode cX6_start 14 = .ok (.iload 5, 2) := by decide +kernel
theorem dX6_start_16 : decode cX6_start 16 = .ok (.iload 4, 2) := by decide +kernel
theorem dX6_start_18 : decode cX6_start 18 = .ok (.if_icmp .ge 30, 3) := by decide +kernel
theorem dX6_start_21 : decode cX6_start 21 = .ok (.aload_n 3, 1) := by decide +kernel
theorem dX6_start_22 : decode cX6_start 22 = .ok (.iload 5, 2) := by decide +kernel
theorem dX6_start_24 : decode cX6_start 24 = .ok (.iaload, 1) := by decide +kernel
theorem dX6_start_25 : decode cX6_start 25 = .ok (.istore 6, 2) := by decide +kernel
theorem dX6_start_27 : decode cX6_start 27 = .ok (.iload 6, 2) := by decide +kernel
theorem dX6_start_29 : decode cX6_start 29 = .ok (.iconst (-1), 1) := by decide +kernel
theorem dX6_start_30 : decode cX6_start 30 = .ok (.if_icmp .eq 12, 3) := by decide +kernel
theorem dX6_start_33 : decode cX6_start 33 = .ok (.iload 6, 2) := by decide +kernel
theorem dX6_start_35 : decode cX6_start 35 = .ok (.iload_n 1, 1) := by decide +kernel
theorem dX6_start_36 : decode cX6_start 36 = .ok (.if_icmp .ge 6, 3) := by decide +kernel
theorem dX6_start_39 : decode cX6_start 39 = .ok (.iinc 2 1, 3) := by decide +kernel
theorem dX6_start_42 : decode cX6_start 42 = .ok (.iinc 5 1, 3) := by decide +kernel
theorem dX6_start_45 : decode cX6_start 45 = .ok (.goto (-31), 3) := by decide +kernel
theorem dX6_start_48 : decode cX6_start 48 = .ok (.iload_n 2, 1) := by decide +kernel
theorem dX6_start_49 : decode cX6_start 49 = .ok (.ireturn, 1) := by decide +kernel
set_option maxHeartbeats 4000000 in
set_option maxRecDepth 100000 in
theorem kX6_start (l : Launch) (z : Nat) (D : va_G) (cA : Nat → ClassId) (a0 : Nat) (x1 : Int32) (M : Mem) (K : Int32 → Prop) (h : PX6_start a0 x1 M K) : Met l yX6_start (.code yX6_start cX6_start 7 (some .int) :: gtbl) ({ frames := 0, cells := 0, slots := 0, locals := 0 } : Room) (va_Pc [.ref a0, .int x1] (xB z D cA M)) (va_Qi (fun r M1 => M1 = M ∧ K r) (xWd z D cA) (xA z)) 0 0 (xA z) := by
  refine x_met (by decide +kernel) (Nat.le_of_ble_eq_true rfl) (L0 := [(0, .ref a0), (1, .int x1)]) rfl ?_
  intro p e s m args below meth c E hr hlk hnm
  have E : xE RX6 cX6_start 7 D cA p s m args c := E
  replace h := h.2
  refine x_iconst (v := (J 0)) E dX6_start_0 (by decide) ?_
  refine x_istore_n (L' := [(2, .int (J 0)), (0, .ref a0), (1, .int x1)]) E dX6_start_1 rfl (by decide) rfl ?_
  refine x_aload_n E dX6_start_2 rfl 1 rfl ?_
  obtain ⟨hT, q1, hv, h⟩ := h
  refine x_get E flX6_15 dX6_start_3 hT hv ?_
  clear hT hv
  refine x_astore_n (L' := [(3, .ref q1), (2, .int (J 0)), (0, .ref a0), (1, .int x1)]) E dX6_start_6 rfl (by decide) rfl ?_
  refine x_aload_n E dX6_start_7 rfl 0 rfl ?_
  obtain ⟨hT, h⟩ := h
  refine x_alen (q := 0) E rfl dX6_start_8 hT (fun v2 ev2 => ?_)
  replace h := h v2 ev2
  clear hT ev2
  refine x_istore (L' := [(4, .int v2), (3, .ref q1), (2, .int (J 0)), (0, .ref a0), (1, .int x1)]) E dX6_start_9 (by decide) rfl ?_
  refine x_iconst (v := (J 0)) E dX6_start_11 (by decide) ?_
  refine x_istore (L' := [(5, .int (J 0)), (4, .int v2), (3, .ref q1), (2, .int (J 0)), (0, .ref a0), (1, .int x1)]) E dX6_start_12 (by decide) rfl ?_
  refine x_sub (L' := [(1, .int x1), (2, .int (J 0)), (3, .ref q1), (4, .int v2), (5, .int (J 0))]) [5, 3, 2, 1, 0] rfl ?_
  refine lp_sound (T := fun sv => xG p l e ({ frames := 0, cells := 0, slots := 0, locals := 0 } : Room) s m args below meth c (MQ below (va_Qi (fun r M1 => M1 = M ∧ K r) (xWd z D cA) (xA z)) args s 0 0 (xA z)) 7 z D cA M (0) (0) 14 [(1, .int x1), (2, .int sv.1), (3, .ref q1), (4, .int v2), (5, .int sv.2)] []) ?_ ((J 0), (J 0)) h
  clear h
  intro kc14 hk14 sv h
  obtain ⟨x2, x5⟩ := sv
  replace h : CX6_start_14 K M x1 q1 v2 kc14 x2 x5 := h
  try dsimp only
  refine x_iload E dX6_start_14 4 rfl ?_
  refine x_iload E dX6_start_16 3 rfl ?_
  refine x_icmp_ge (tgt := 48) E dX6_start_18 (by decide) (fun c3 => ?_) (fun c3 => ?_)
  · replace h := xbr_t h c3
    clear c3
    refine x_iload_n E dX6_start_48 rfl 1 rfl ?_
    exact x_iret E hr hlk dX6_start_49 ⟨rfl, h⟩
  · replace h := xbr_f h c3
    clear c3
    refine x_aload_n E dX6_start_21 rfl 2 rfl ?_
    refine x_iload E dX6_start_22 4 rfl ?_
    obtain ⟨hT, hi, v4, hv, h⟩ := h
    refine x_iald E dX6_start_24 hT hi hv ?_
    clear hT hi hv
    refine x_istore (L' := [(6, .int v4), (1, .int x1), (2, .int x2), (3, .ref q1), (4, .int v2), (5, .int x5)]) E dX6_start_25 (by decide) rfl ?_
    refine x_iload E dX6_start_27 0 rfl ?_
    refine x_iconst (v := (J (-1))) E dX6_start_29 (by decide) ?_
    refine x_icmp_eq (tgt := 42) E dX6_start_30 (by decide) (fun c5 => ?_) (fun c5 => ?_)
    · replace h := xbr_t h c5
      clear c5
      refine x_iinc (v := (x5 + (J 1))) (L' := [(5, .int (x5 + (J 1))), (6, .int v4), (1, .int x1), (2, .int x2), (3, .ref q1), (4, .int v2)]) E dX6_start_42 5 rfl rfl (by decide) rfl ?_
      refine x_goto (tgt := 14) E dX6_start_45 (by decide) ?_
      refine x_sub (L' := [(1, .int x1), (2, .int x2), (3, .ref q1), (4, .int v2), (5, .int (x5 + (J 1)))]) [2, 3, 4, 5, 0] rfl ?_
      exact hk14 (x2, (x5 + (J 1))) h
    · replace h := xbr_f h c5
      clear c5
      refine x_iload E dX6_start_33 0 rfl ?_
      refine x_iload_n E dX6_start_35 rfl 1 rfl ?_
      refine x_icmp_ge (tgt := 42) E dX6_start_36 (by decide) (fun c6 => ?_) (fun c6 => ?_)
      · replace h := xbr_t h c6
        clear c6
        refine x_iinc (v := (x5 + (J 1))) (L' := [(5, .int (x5 + (J 1))), (6, .int v4), (1, .int x1), (2, .int x2), (3, .ref q1), (4, .int v2)]) E dX6_start_42 5 rfl rfl (by decide) rfl ?_
        refine x_goto (tgt := 14) E dX6_start_45 (by decide) ?_
        refine x_sub (L' := [(1, .int x1), (2, .int x2), (3, .ref q1), (4, .int v2), (5, .int (x5 + (J 1)))]) [2, 3, 4, 5, 0] rfl ?_
        exact hk14 (x2, (x5 + (J 1))) h
      · replace h := xbr_f h c6
        clear c6
        refine x_iinc (v := (x2 + (J 1))) (L' := [(2, .int (x2 + (J 1))), (6, .int v4), (1, .int x1), (3, .ref q1), (4, .int v2), (5, .int x5)]) E dX6_start_39 2 rfl rfl (by decide) rfl ?_
        refine x_iinc (v := (x5 + (J 1))) (L' := [(5, .int (x5 + (J 1))), (2, .int (x2 + (J 1))), (6, .int v4), (1, .int x1), (3, .ref q1), (4, .int v2)]) E dX6_start_42 5 rfl rfl (by decide) rfl ?_
        refine x_goto (tgt := 14) E dX6_start_45 (by decide) ?_
        refine x_sub (L' := [(1, .int x1), (2, .int (x2 + (J 1))), (3, .ref q1), (4, .int v2), (5, .int (x5 + (J 1)))]) [3, 1, 4, 5, 0] rfl ?_
        exact hk14 ((x2 + (J 1)), (x5 + (J 1))) h
theorem dX6_amount_0 : decode cX6_amount 0 = .ok (.iconst 0, 1) := by decide +kernel
theorem dX6_amount_1 : decode cX6_amount 1 = .ok (.istore_n 2, 1) := by decide +kernel
theorem dX6_amount_2 : decode cX6_amount 2 = .ok (.aload_n 0, 1) := by decide +kernel
theorem dX6_amount_3 : decode cX6_amount 3 = .ok (.getfield 15, 3) := by decide +kernel
theorem dX6_amount_6 : decode cX6_amount 6 = .ok (.astore_n 3, 1) := by decide +kernel
theorem dX6_amount_7 : decode cX6_amount 7 = .ok (.aload_n 3, 1) := by decide +kernel
theorem dX6_amount_8 : decode cX6_amount 8 = .ok (.arraylength, 1) := by decide +kernel
theorem dX6_amount_9 : decode cX6_amount 9 = .ok (.istore 4, 2) := by decide +kernel
theorem dX6_amount_11 : decode cX6_amount 11 = .ok (.iconst 0, 1) := by decide +kernel
theorem dX6_amount_12 : decode cX6_amount 12 = .ok (.istore 5, 2) := by decide +kernel
theorem dX6_amount_14 : decode cX6_amount 14 = .ok (.iload 5, 2) := by decide +kernel
theorem dX6_amount_16 : decode cX6_amount 16 = .ok (.iload 4, 2) := by decide +kernel
theorem dX6_amount_18 : decode cX6_amount 18 = .ok (.if_icmp .ge 24, 3) := by decide +kernel
theorem dX6_amount_21 : decode cX6_amount 21 = .ok (.aload_n 3, 1) := by decide +kernel
theorem dX6_amount_22 : decode cX6_amount 22 = .ok (.iload 5, 2) := by decide +kernel
theorem dX6_amount_24 : decode cX6_amount 24 = .ok (.iaload, 1) := by decide +kernel
theorem dX6_amount_25 : decode cX6_amount 25 = .ok (.istore 6, 2) := by decide +kernel
theorem dX6_amount_27 : decode cX6_amount 27 = .ok (.iload 6, 2) := by decide +kernel
theorem dX6_amount_29 : decode cX6_amount 29 = .ok (.iload_n 1, 1) := by decide +kernel
theorem dX6_amount_30 : decode cX6_amount 30 = .ok (.if_icmp .ne 6, 3) := by decide +kernel
theorem dX6_amount_33 : decode cX6_amount 33 = .ok (.iinc 2 1, 3) := by decide +kernel
theorem dX6_amount_36 : decode cX6_amount 36 = .ok (.iinc 5 1, 3) := by decide +kernel
theorem dX6_amount_39 : decode cX6_amount 39 = .ok (.goto (-25), 3) := by decide +kernel
theorem dX6_amount_42 : decode cX6_amount 42 = .ok (.iload_n 2, 1) := by decide +kernel
theorem dX6_amount_43 : decode cX6_amount 43 = .ok (.ireturn, 1) := by decide +kernel
set_option maxHeartbeats 4000000 in
set_option maxRecDepth 100000 in
theorem kX6_amount (l : Launch) (z : Nat) (D : va_G) (cA : Nat → ClassId) (a0 : Nat) (x1 : Int32) (M : Mem) (K : Int32 → Prop) (h : PX6_amount a0 x1 M K) : Met l yX6_amount (.code yX6_amount cX6_amount 7 (some .int) :: gtbl) ({ frames := 0, cells := 0, slots := 0, locals := 0 } : Room) (va_Pc [.ref a0, .int x1] (xB z D cA M)) (va_Qi (fun r M1 => M1 = M ∧ K r) (xWd z D cA) (xA z)) 0 0 (xA z) := by
  refine x_met (by decide +kernel) (Nat.le_of_ble_eq_true rfl) (L0 := [(0, .ref a0), (1, .int x1)]) rfl ?_
  intro p e s m args below meth c E hr hlk hnm
  have E : xE RX6 cX6_amount 7 D cA p s m args c := E
  replace h := h.2
  refine x_iconst (v := (J 0)) E dX6_amount_0 (by decide) ?_
  refine x_istore_n (L' := [(2, .int (J 0)), (0, .ref a0), (1, .int x1)]) E dX6_amount_1 rfl (by decide) rfl ?_
  refine x_aload_n E dX6_amount_2 rfl 1 rfl ?_
  obtain ⟨hT, q1, hv, h⟩ := h
  refine x_get E flX6_15 dX6_amount_3 hT hv ?_
  clear hT hv
  refine x_astore_n (L' := [(3, .ref q1), (2, .int (J 0)), (0, .ref a0), (1, .int x1)]) E dX6_amount_6 rfl (by decide) rfl ?_
  refine x_aload_n E dX6_amount_7 rfl 0 rfl ?_
  obtain ⟨hT, h⟩ := h
  refine x_alen (q := 0) E rfl dX6_amount_8 hT (fun v2 ev2 => ?_)
  replace h := h v2 ev2
  clear hT ev2
  refine x_istore (L' := [(4, .int v2), (3, .ref q1), (2, .int (J 0)), (0, .ref a0), (1, .int x1)]) E dX6_amount_9 (by decide) rfl ?_
  refine x_iconst (v := (J 0)) E dX6_amount_11 (by decide) ?_
  refine x_istore (L' := [(5, .int (J 0)), (4, .int v2), (3, .ref q1), (2, .int (J 0)), (0, .ref a0), (1, .int x1)]) E dX6_amount_12 (by decide) rfl ?_
  refine x_sub (L' := [(1, .int x1), (2, .int (J 0)), (3, .ref q1), (4, .int v2), (5, .int (J 0))]) [5, 3, 2, 1, 0] rfl ?_
  refine lp_sound (T := fun sv => xG p l e ({ frames := 0, cells := 0, slots := 0, locals := 0 } : Room) s m args below meth c (MQ below (va_Qi (fun r M1 => M1 = M ∧ K r) (xWd z D cA) (xA z)) args s 0 0 (xA z)) 7 z D cA M (0) (0) 14 [(1, .int x1), (2, .int sv.1), (3, .ref q1), (4, .int v2), (5, .int sv.2)] []) ?_ ((J 0), (J 0)) h
  clear h
  intro kc14 hk14 sv h
  obtain ⟨x2, x5⟩ := sv
  replace h : CX6_amount_14 K M x1 q1 v2 kc14 x2 x5 := h
  try dsimp only
  refine x_iload E dX6_amount_14 4 rfl ?_
  refine x_iload E dX6_amount_16 3 rfl ?_
  refine x_icmp_ge (tgt := 42) E dX6_amount_18 (by decide) (fun c3 => ?_) (fun c3 => ?_)
  · replace h := xbr_t h c3
    clear c3
    refine x_iload_n E dX6_amount_42 rfl 1 rfl ?_
    exact x_iret E hr hlk dX6_amount_43 ⟨rfl, h⟩
  · replace h := xbr_f h c3
    clear c3
    refine x_aload_n E dX6_amount_21 rfl 2 rfl ?_
    refine x_iload E dX6_amount_22 4 rfl ?_
    obtain ⟨hT, hi, v4, hv, h⟩ := h
    refine x_iald E dX6_amount_24 hT hi hv ?_
    clear hT hi hv
    refine x_istore (L' := [(6, .int v4), (1, .int x1), (2, .int x2), (3, .ref q1), (4, .int v2), (5, .int x5)]) E dX6_amount_25 (by decide) rfl ?_
    refine x_iload E dX6_amount_27 0 rfl ?_
    refine x_iload_n E dX6_amount_29 rfl 1 rfl ?_
    refine x_icmp_ne (tgt := 36) E dX6_amount_30 (by decide) (fun c5 => ?_) (fun c5 => ?_)
    · replace h := xbr_f h c5
      clear c5
      refine x_iinc (v := (x5 + (J 1))) (L' := [(5, .int (x5 + (J 1))), (6, .int v4), (1, .int x1), (2, .int x2), (3, .ref q1), (4, .int v2)]) E dX6_amount_36 5 rfl rfl (by decide) rfl ?_
      refine x_goto (tgt := 14) E dX6_amount_39 (by decide) ?_
      refine x_sub (L' := [(1, .int x1), (2, .int x2), (3, .ref q1), (4, .int v2), (5, .int (x5 + (J 1)))]) [2, 3, 4, 5, 0] rfl ?_
      exact hk14 (x2, (x5 + (J 1))) h
    · replace h := xbr_t h c5
      clear c5
      refine x_iinc (v := (x2 + (J 1))) (L' := [(2, .int (x2 + (J 1))), (6, .int v4), (1, .int x1), (3, .ref q1), (4, .int v2), (5, .int x5)]) E dX6_amount_33 2 rfl rfl (by decide) rfl ?_
      refine x_iinc (v := (x5 + (J 1))) (L' := [(5, .int (x5 + (J 1))), (2, .int (x2 + (J 1))), (6, .int v4), (1, .int x1), (3, .ref q1), (4, .int v2)]) E dX6_amount_36 5 rfl rfl (by decide) rfl ?_
      refine x_goto (tgt := 14) E dX6_amount_39 (by decide) ?_
      refine x_sub (L' := [(1, .int x1), (2, .int (x2 + (J 1))), (3, .ref q1), (4, .int v2), (5, .int (x5 + (J 1)))]) [3, 1, 4, 5, 0] rfl ?_
      exact hk14 ((x2 + (J 1)), (x5 + (J 1))) h
theorem dX6_onShelf_0 : decode cX6_onShelf 0 = .ok (.iload_n 2, 1) := by decide +kernel
theorem dX6_onShelf_1 : decode cX6_onShelf 1 = .ok (.ifCond .lt 26, 3) := by decide +kernel
theorem dX6_onShelf_4 : decode cX6_onShelf 4 = .ok (.iload_n 2, 1) := by decide +kernel
theorem dX6_onShelf_5 : decode cX6_onShelf 5 = .ok (.aload_n 0, 1) := by decide +kernel
theorem dX6_onShelf_6 : decode cX6_onShelf 6 = .ok (.iload_n 1, 1) := by decide +kernel
theorem dX6_onShelf_7 : decode cX6_onShelf 7 = .ok (.invokevirtual 44, 3) := by decide +kernel
theorem dX6_onShelf_10 : decode cX6_onShelf 10 = .ok (.if_icmp .ge 17, 3) := by decide +kernel
theorem dX6_onShelf_13 : decode cX6_onShelf 13 = .ok (.aload_n 0, 1) := by decide +kernel
theorem dX6_onShelf_14 : decode cX6_onShelf 14 = .ok (.aload_n 0, 1) := by decide +kernel
theorem dX6_onShelf_15 : decode cX6_onShelf 15 = .ok (.iload_n 1, 1) := by decide +kernel
theorem dX6_onShelf_16 : decode cX6_onShelf 16 = .ok (.invokevirtual 47, 3) := by decide +kernel
theorem dX6_onShelf_19 : decode cX6_onShelf 19 = .ok (.iload_n 2, 1) := by decide +kernel
theorem dX6_onShelf_20 : decode cX6_onShelf 20 = .ok (.iadd, 1) := by decide +kernel
theorem dX6_onShelf_21 : decode cX6_onShelf 21 = .ok (.invokevirtual 37, 3) := by decide +kernel
theorem dX6_onShelf_24 : decode cX6_onShelf 24 = .ok (.goto 4, 3) := by decide +kernel
theorem dX6_onShelf_27 : decode cX6_onShelf 27 = .ok (.iconst (-1), 1) := by decide +kernel
theorem dX6_onShelf_28 : decode cX6_onShelf 28 = .ok (.ireturn, 1) := by decide +kernel
set_option maxHeartbeats 4000000 in
set_option maxRecDepth 100000 in
theorem kX6_onShelf (l : Launch) (z : Nat) (D : va_G) (cA : Nat → ClassId) (a0 : Nat) (x1 : Int32) (x2 : Int32) (M : Mem) (K : Int32 → Prop) (h : PX6_onShelf a0 x1 x2 M K) : Met l yX6_onShelf (.code yX6_onShelf cX6_onShelf 3 (some .int) :: gtbl) ({ frames := 1, cells := 0, slots := 0, locals := 26 } : Room) (va_Pc [.ref a0, .int x1, .int x2] (xB z D cA M)) (va_Qi (fun r M1 => M1 = M ∧ K r) (xWd z D cA) (xA z)) 0 0 (xA z) := by
  refine x_met (by decide +kernel) (Nat.le_of_ble_eq_true rfl) (L0 := [(0, .ref a0), (1, .int x1), (2, .int x2)]) rfl ?_
  intro p e s m args below meth c E hr hlk hnm
  have E : xE RX6 cX6_onShelf 3 D cA p s m args c := E
  replace h := h.2
  refine x_iload_n E dX6_onShelf_0 rfl 2 rfl ?_
  refine x_if_lt (tgt := 27) E dX6_onShelf_1 (by decide) (fun c1 => ?_) (fun c1 => ?_)
  · replace h := xbr_t h c1
    clear c1
    refine x_iconst (v := (J (-1))) E dX6_onShelf_27 (by decide) ?_
    exact x_iret E hr hlk dX6_onShelf_28 ⟨rfl, h⟩
  · replace h := xbr_f h c1
    clear c1
    refine x_iload_n E dX6_onShelf_4 rfl 2 rfl ?_
    refine x_aload_n E dX6_onShelf_5 rfl 0 rfl ?_
    refine x_iload_n E dX6_onShelf_6 rfl 1 rfl ?_
    refine x_callVi (T := TX6) (N := 3) (t := 7) (As := [.int x1]) E mlX6_44 inX6_amount seX6_amount rfl ⟨by decide, by decide⟩ (tX6_amount h) (kX6_amount l z D cA a0 x1 M _ h) rfl ⟨rfl, rfl⟩ ⟨Nat.le_of_ble_eq_true rfl, Nat.le_of_ble_eq_true rfl⟩ ⟨(Nat.le_of_ble_eq_true rfl), (Nat.le_of_ble_eq_true rfl)⟩ (Nat.le_of_ble_eq_true rfl) rfl dX6_onShelf_7 (x_pure (fun r2 h => ?_))
    refine x_icmp_ge (tgt := 27) E dX6_onShelf_10 (by decide) (fun c4 => ?_) (fun c4 => ?_)
    · replace h := xbr_t h c4
      clear c4
      refine x_iconst (v := (J (-1))) E dX6_onShelf_27 (by decide) ?_
      exact x_iret E hr hlk dX6_onShelf_28 ⟨rfl, h⟩
    · replace h := xbr_f h c4
      clear c4
      refine x_aload_n E dX6_onShelf_13 rfl 0 rfl ?_
      refine x_aload_n E dX6_onShelf_14 rfl 0 rfl ?_
      refine x_iload_n E dX6_onShelf_15 rfl 1 rfl ?_
      refine x_callVi (T := TX6) (N := 3) (t := 7) (As := [.int x1]) E mlX6_47 inX6_start seX6_start rfl ⟨by decide, by decide⟩ (tX6_start h) (kX6_start l z D cA a0 x1 M _ h) rfl ⟨rfl, rfl⟩ ⟨Nat.le_of_ble_eq_true rfl, Nat.le_of_ble_eq_true rfl⟩ ⟨(Nat.le_of_ble_eq_true rfl), (Nat.le_of_ble_eq_true rfl)⟩ (Nat.le_of_ble_eq_true rfl) rfl dX6_onShelf_16 (x_pure (fun r5 h => ?_))
      refine x_iload_n E dX6_onShelf_19 rfl 2 rfl ?_
      refine x_iadd E dX6_onShelf_20 ?_
      refine x_callVi (T := TX6) (N := 3) (t := 7) (As := [.int (r5 + x2)]) E mlX6_37 inX6_bookAt seX6_bookAt rfl ⟨by decide, by decide⟩ (tX6_bookAt h) (kX6_bookAt l z D cA a0 (r5 + x2) M _ h) rfl ⟨rfl, rfl⟩ ⟨Nat.le_of_ble_eq_true rfl, Nat.le_of_ble_eq_true rfl⟩ ⟨(Nat.le_of_ble_eq_true rfl), (Nat.le_of_ble_eq_true rfl)⟩ (Nat.le_of_ble_eq_true rfl) rfl dX6_onShelf_21 (x_pure (fun r7 h => ?_))
      refine x_goto (tgt := 28) E dX6_onShelf_24 (by decide) ?_
      exact x_iret E hr hlk dX6_onShelf_28 ⟨rfl, h⟩
theorem dX6_insert_0 : decode cX6_insert 0 = .ok (.aload_n 0, 1) := by decide +kernel
theorem dX6_insert_1 : decode cX6_insert 1 = .ok (.getfield 21, 3) := by decide +kernel
theorem dX6_insert_4 : decode cX6_insert 4 = .ok (.bipush 24, 2) := by decide +kernel
theorem dX6_insert_6 : decode cX6_insert 6 = .ok (.if_icmp .ge 15, 3) := by decide +kernel
theorem dX6_insert_9 : decode cX6_insert 9 = .ok (.iload_n 1, 1) := by decide +kernel
theorem dX6_insert_10 : decode cX6_insert 10 = .ok (.ifCond .lt 11, 3) := by decide +kernel
theorem dX6_insert_13 : decode cX6_insert 13 = .ok (.iload_n 1, 1) := by decide +kernel
theorem dX6_insert_14 : decode cX6_insert 14 = .ok (.aload_n 0, 1) := by decide +kernel
theorem dX6_insert_15 : decode cX6_insert 15 = .ok (.getfield 21, 3) := by decide +kernel
theorem dX6_insert_18 : decode cX6_insert 18 = .ok (.if_icmp .le 4, 3) := by decide +kernel
theorem dX6_insert_21 : decode cX6_insert 21 = .ok (.return_, 1) := by decide +kernel
theorem dX6_insert_22 : decode cX6_insert 22 = .ok (.aload_n 0, 1) := by decide +kernel
theorem dX6_insert_23 : decode cX6_insert 23 = .ok (.getfield 21, 3) := by decide +kernel
theorem dX6_insert_26 : decode cX6_insert 26 = .ok (.istore 4, 2) := by decide +kernel
theorem dX6_insert_28 : decode cX6_insert 28 = .ok (.iload 4, 2) := by decide +kernel
theorem dX6_insert_30 : decode cX6_insert 30 = .ok (.iload_n 1, 1) := by decide +kernel
theorem dX6_insert_31 : decode cX6_insert 31 = .ok (.if_icmp .le 29, 3) := by decide +kernel
theorem dX6_insert_34 : decode cX6_insert 34 = .ok (.aload_n 0, 1) := by decide +kernel
theorem dX6_insert_35 : decode cX6_insert 35 = .ok (.getfield 9, 3) := by decide +kernel
theorem dX6_insert_38 : decode cX6_insert 38 = .ok (.iload 4, 2) := by decide +kernel
theorem dX6_insert_40 : decode cX6_insert 40 = .ok (.aload_n 0, 1) := by decide +kernel
theorem dX6_insert_41 : decode cX6_insert 41 = .ok (.getfield 9, 3) := by decide +kernel
theorem dX6_insert_44 : decode cX6_insert 44 = .ok (.iload 4, 2) := by decide +kernel
theorem dX6_insert_46 : decode cX6_insert 46 = .ok (.iconst 1, 1) := by decide +kernel
theorem dX6_insert_47 : decode cX6_insert 47 = .ok (.isub, 1) := by decide +kernel
theorem dX6_insert_48 : decode cX6_insert 48 = .ok (.invokestatic 29, 3) := by decide +kernel
theorem dX6_insert_51 : decode cX6_insert 51 = .ok (.invokestatic 25, 3) := by decide +kernel
theorem dX6_insert_54 : decode cX6_insert 54 = .ok (.iinc 4 (-1), 3) := by decide +kernel
theorem dX6_insert_57 : decode cX6_insert 57 = .ok (.goto (-29), 3) := by decide +kernel
theorem dX6_insert_60 : decode cX6_insert 60 = .ok (.aload_n 0, 1) := by decide +kernel
theorem dX6_insert_61 : decode cX6_insert 61 = .ok (.getfield 9, 3) := by decide +kernel
theorem dX6_insert_64 : decode cX6_insert 64 = .ok (.iload_n 1, 1) := by decide +kernel
theorem dX6_insert_65 : decode cX6_insert 65 = .ok (.iload_n 2, 1) := by decide +kernel
theorem dX6_insert_66 : decode cX6_insert 66 = .ok (.invokestatic 25, 3) := by decide +kernel
theorem dX6_insert_69 : decode cX6_insert 69 = .ok (.aload_n 0, 1) := by decide +kernel
theorem dX6_insert_70 : decode cX6_insert 70 = .ok (.getfield 15, 3) := by decide +kernel
theorem dX6_insert_73 : decode cX6_insert 73 = .ok (.iload_n 2, 1) := by decide +kernel
theorem dX6_insert_74 : decode cX6_insert 74 = .ok (.iload_n 3, 1) := by decide +kernel
theorem dX6_insert_75 : decode cX6_insert 75 = .ok (.invokestatic 25, 3) := by decide +kernel
theorem dX6_insert_78 : decode cX6_insert 78 = .ok (.aload_n 0, 1) := by decide +kernel
theorem dX6_insert_79 : decode cX6_insert 79 = .ok (.dup, 1) := by decide +kernel
theorem dX6_insert_80 : decode cX6_insert 80 = .ok (.getfield 21, 3) := by decide +kernel
theorem dX6_insert_83 : decode cX6_insert 83 = .ok (.iconst 1, 1) := by decide +kernel
theorem dX6_insert_84 : decode cX6_insert 84 = .ok (.iadd, 1) := by decide +kernel
theorem dX6_insert_85 : decode cX6_insert 85 = .ok (.putfield 21, 3) := by decide +kernel
theorem dX6_insert_88 : decode cX6_insert 88 = .ok (.return_, 1) := by decide +kernel
set_option maxHeartbeats 4000000 in
set_option maxRecDepth 100000 in
theorem kX6_insert (l : Launch) (z : Nat) (D : va_G) (cA : Nat → ClassId) (a0 : Nat) (x1 : Int32) (x2 : Int32) (x3 : Int32) (M : Mem) (K : Mem → Prop) (h : PX6_insert a0 x1 x2 x3 M K) : Met l yX6_insert (.code yX6_insert cX6_insert 5 none :: gtbl) ({ frames := 1, cells := 0, slots := 0, locals := 22 } : Room) (va_Pc [.ref a0, .int x1, .int x2, .int x3] (xB z D cA M)) (va_Qv K (xWd z D cA) (xA z)) 0 0 (xA z) := by
  refine x_met (by decide +kernel) (Nat.le_of_ble_eq_true rfl) (L0 := [(0, .ref a0), (1, .int x1), (2, .int x2), (3, .int x3)]) rfl ?_
  intro p e s m args below meth c E hr hlk hnm
  have E : xE RX6 cX6_insert 5 D cA p s m args c := E
  replace h := h.2
  refine x_aload_n E dX6_insert_0 rfl 0 rfl ?_
  obtain ⟨hT, v1, hv, h⟩ := h
  refine x_get E flX6_21 dX6_insert_1 hT hv ?_
  clear hT hv
  refine x_bipush (v := (J 24)) E dX6_insert_4 (by decide) ?_
  refine x_icmp_ge (tgt := 21) E dX6_insert_6 (by decide) (fun c2 => ?_) (fun c2 => ?_)
  · replace h := xbr_t h c2
    clear c2
    exact x_vret E hr hlk dX6_insert_21 h
  · replace h := xbr_f h c2
    clear c2
    refine x_iload_n E dX6_insert_9 rfl 1 rfl ?_
    refine x_if_lt (tgt := 21) E dX6_insert_10 (by decide) (fun c3 => ?_) (fun c3 => ?_)
    · replace h := xbr_t h c3
      clear c3
      exact x_vret E hr hlk dX6_insert_21 h
    · replace h := xbr_f h c3
      clear c3
      refine x_iload_n E dX6_insert_13 rfl 1 rfl ?_
      refine x_aload_n E dX6_insert_14 rfl 0 rfl ?_
      obtain ⟨hT, v4, hv, h⟩ := h
      refine x_get E flX6_21 dX6_insert_15 hT hv ?_
      clear hT hv
      refine x_icmp_le (tgt := 22) E dX6_insert_18 (by decide) (fun c5 => ?_) (fun c5 => ?_)
      · replace h := xbr_t h c5
        clear c5
        refine x_aload_n E dX6_insert_22 rfl 0 rfl ?_
        obtain ⟨hT, v6, hv, h⟩ := h
        refine x_get E flX6_21 dX6_insert_23 hT hv ?_
        clear hT hv
        refine x_istore (L' := [(4, .int v6), (0, .ref a0), (1, .int x1), (2, .int x2), (3, .int x3)]) E dX6_insert_26 (by decide) rfl ?_
        refine x_sub (L' := [(0, .ref a0), (1, .int x1), (2, .int x2), (3, .int x3), (4, .int v6)]) [1, 2, 3, 4, 0] rfl ?_
        refine lp_sound (T := fun sv => xG p l e ({ frames := 1, cells := 0, slots := 0, locals := 22 } : Room) s m args below meth c (MQ below (va_Qv K (xWd z D cA) (xA z)) args s 0 0 (xA z)) 5 z D cA sv.1 (0) (0) 28 [(0, .ref a0), (1, .int x1), (2, .int x2), (3, .int x3), (4, .int sv.2)] []) ?_ (M, v6) h
        clear h
        intro kc28 hk28 sv h
        obtain ⟨M, x4⟩ := sv
        replace h : CX6_insert_28 K a0 x1 x2 x3 kc28 M x4 := h
        try dsimp only
        refine x_iload E dX6_insert_28 4 rfl ?_
        refine x_iload_n E dX6_insert_30 rfl 1 rfl ?_
        refine x_icmp_le (tgt := 60) E dX6_insert_31 (by decide) (fun c7 => ?_) (fun c7 => ?_)
        · replace h := xbr_t h c7
          clear c7
          refine x_aload_n E dX6_insert_60 rfl 0 rfl ?_
          obtain ⟨hT, q8, hv, h⟩ := h
          refine x_get E flX6_9 dX6_insert_61 hT hv ?_
          clear hT hv
          refine x_iload_n E dX6_insert_64 rfl 1 rfl ?_
          refine x_iload_n E dX6_insert_65 rfl 2 rfl ?_
          refine x_callSNv (As := [.ref q8, .int x1, .int x2]) E mlX6_25 stX10_write (kX10_write l z D cA q8 x1 x2 M _ h) rfl ⟨rfl, rfl⟩ ⟨Nat.le_of_ble_eq_true rfl, Nat.le_of_ble_eq_true rfl⟩ ⟨(Nat.le_of_ble_eq_true rfl), (Nat.le_of_ble_eq_true rfl)⟩ (Nat.le_of_ble_eq_true rfl) rfl dX6_insert_66 (fun M10 h => ?_)
          refine x_aload_n E dX6_insert_69 rfl 0 rfl ?_
          obtain ⟨hT, q11, hv, h⟩ := h
          refine x_get E flX6_15 dX6_insert_70 hT hv ?_
          clear hT hv
          refine x_iload_n E dX6_insert_73 rfl 2 rfl ?_
          refine x_iload_n E dX6_insert_74 rfl 3 rfl ?_
          refine x_callSNv (As := [.ref q11, .int x2, .int x3]) E mlX6_25 stX10_write (kX10_write l z D cA q11 x2 x3 M10 _ h) rfl ⟨rfl, rfl⟩ ⟨Nat.le_of_ble_eq_true rfl, Nat.le_of_ble_eq_true rfl⟩ ⟨(Nat.le_of_ble_eq_true rfl), (Nat.le_of_ble_eq_true rfl)⟩ (Nat.le_of_ble_eq_true rfl) rfl dX6_insert_75 (fun M13 h => ?_)
          refine x_aload_n E dX6_insert_78 rfl 0 rfl ?_
          refine x_dup E dX6_insert_79 rfl ?_
          obtain ⟨hT, v14, hv, h⟩ := h
          refine x_get E flX6_21 dX6_insert_80 hT hv ?_
          clear hT hv
          refine x_iconst (v := (J 1)) E dX6_insert_83 (by decide) ?_
          refine x_iadd E dX6_insert_84 ?_
          obtain ⟨hT, h⟩ := h
          refine x_put E flX6_21 ⟨tyX6_ok, nmX6, rfl⟩ (by decide +kernel) rfl rfl dX6_insert_85 hT (fun M15 eM15 => ?_)
          replace h := h M15 eM15
          clear hT eM15
          exact x_vret E hr hlk dX6_insert_88 h
        · replace h := xbr_f h c7
          clear c7
          refine x_aload_n E dX6_insert_34 rfl 0 rfl ?_
          obtain ⟨hT, q16, hv, h⟩ := h
          refine x_get E flX6_9 dX6_insert_35 hT hv ?_
          clear hT hv
          refine x_iload E dX6_insert_38 4 rfl ?_
          refine x_aload_n E dX6_insert_40 rfl 0 rfl ?_
          obtain ⟨hT, q17, hv, h⟩ := h
          refine x_get E flX6_9 dX6_insert_41 hT hv ?_
          clear hT hv
          refine x_iload E dX6_insert_44 4 rfl ?_
          refine x_iconst (v := (J 1)) E dX6_insert_46 (by decide) ?_
          refine x_isub E dX6_insert_47 ?_
          refine x_callSNi (As := [.ref q17, .int (x4 - (J 1))]) E mlX6_29 stX10_entry (kX10_entry l z D cA q17 (x4 - (J 1)) M _ h) rfl ⟨rfl, rfl⟩ ⟨Nat.le_of_ble_eq_true rfl, Nat.le_of_ble_eq_true rfl⟩ ⟨(Nat.le_of_ble_eq_true rfl), (Nat.le_of_ble_eq_true rfl)⟩ (Nat.le_of_ble_eq_true rfl) rfl dX6_insert_48 (x_pure (fun r18 h => ?_))
          refine x_callSNv (As := [.ref q16, .int x4, .int r18]) E mlX6_25 stX10_write (kX10_write l z D cA q16 x4 r18 M _ h) rfl ⟨rfl, rfl⟩ ⟨Nat.le_of_ble_eq_true rfl, Nat.le_of_ble_eq_true rfl⟩ ⟨(Nat.le_of_ble_eq_true rfl), (Nat.le_of_ble_eq_true rfl)⟩ (Nat.le_of_ble_eq_true rfl) rfl dX6_insert_51 (fun M21 h => ?_)
          refine x_iinc (v := (x4 + (J (-1)))) (L' := [(4, .int (x4 + (J (-1)))), (0, .ref a0), (1, .int x1), (2, .int x2), (3, .int x3)]) E dX6_insert_54 4 rfl rfl (by decide) rfl ?_
          refine x_goto (tgt := 28) E dX6_insert_57 (by decide) ?_
          refine x_sub (L' := [(0, .ref a0), (1, .int x1), (2, .int x2), (3, .int x3), (4, .int (x4 + (J (-1))))]) [1, 2, 3, 4, 0] rfl ?_
          exact hk28 (M21, (x4 + (J (-1)))) h
      · replace h := xbr_f h c5
        clear c5
        exact x_vret E hr hlk dX6_insert_21 h
theorem dX6_remove_0 : decode cX6_remove 0 = .ok (.aload_n 0, 1) := by decide +kernel
theorem dX6_remove_1 : decode cX6_remove 1 = .ok (.iload_n 1, 1) := by decide +kernel
theorem dX6_remove_2 : decode cX6_remove 2 = .ok (.invokevirtual 50, 3) := by decide +kernel
theorem dX6_remove_5 : decode cX6_remove 5 = .ok (.istore_n 2, 1) := by decide +kernel
theorem dX6_remove_6 : decode cX6_remove 6 = .ok (.iload_n 2, 1) := by decide +kernel
theorem dX6_remove_7 : decode cX6_remove 7 = .ok (.iconst (-1), 1) := by decide +kernel
theorem dX6_remove_8 : decode cX6_remove 8 = .ok (.if_icmp .ne 4, 3) := by decide +kernel
theorem dX6_remove_11 : decode cX6_remove 11 = .ok (.return_, 1) := by decide +kernel
theorem dX6_remove_12 : decode cX6_remove 12 = .ok (.aload_n 0, 1) := by decide +kernel
theorem dX6_remove_13 : decode cX6_remove 13 = .ok (.dup, 1) := by decide +kernel
theorem dX6_remove_14 : decode cX6_remove 14 = .ok (.getfield 21, 3) := by decide +kernel
theorem dX6_remove_17 : decode cX6_remove 17 = .ok (.iconst 1, 1) := by decide +kernel
theorem dX6_remove_18 : decode cX6_remove 18 = .ok (.isub, 1) := by decide +kernel
theorem dX6_remove_19 : decode cX6_remove 19 = .ok (.putfield 21, 3) := by decide +kernel
theorem dX6_remove_22 : decode cX6_remove 22 = .ok (.iload_n 2, 1) := by decide +kernel
theorem dX6_remove_23 : decode cX6_remove 23 = .ok (.istore_n 3, 1) := by decide +kernel
theorem dX6_remove_24 : decode cX6_remove 24 = .ok (.iload_n 3, 1) := by decide +kernel
theorem dX6_remove_25 : decode cX6_remove 25 = .ok (.aload_n 0, 1) := by decide +kernel
theorem dX6_remove_26 : decode cX6_remove 26 = .ok (.getfield 21, 3) := by decide +kernel
theorem dX6_remove_29 : decode cX6_remove 29 = .ok (.if_icmp .ge 27, 3) := by decide +kernel
theorem dX6_remove_32 : decode cX6_remove 32 = .ok (.aload_n 0, 1) := by decide +kernel
theorem dX6_remove_33 : decode cX6_remove 33 = .ok (.getfield 9, 3) := by decide +kernel
theorem dX6_remove_36 : decode cX6_remove 36 = .ok (.iload_n 3, 1) := by decide +kernel
theorem dX6_remove_37 : decode cX6_remove 37 = .ok (.aload_n 0, 1) := by decide +kernel
theorem dX6_remove_38 : decode cX6_remove 38 = .ok (.getfield 9, 3) := by decide +kernel
theorem dX6_remove_41 : decode cX6_remove 41 = .ok (.iload_n 3, 1) := by decide +kernel
theorem dX6_remove_42 : decode cX6_remove 42 = .ok (.iconst 1, 1) := by decide +kernel
theorem dX6_remove_43 : decode cX6_remove 43 = .ok (.iadd, 1) := by decide +kernel
theorem dX6_remove_44 : decode cX6_remove 44 = .ok (.invokestatic 29, 3) := by decide +kernel
theorem dX6_remove_47 : decode cX6_remove 47 = .ok (.invokestatic 25, 3) := by decide +kernel
theorem dX6_remove_50 : decode cX6_remove 50 = .ok (.iinc 3 1, 3) := by decide +kernel
theorem dX6_remove_53 : decode cX6_remove 53 = .ok (.goto (-29), 3) := by decide +kernel
theorem dX6_remove_56 : decode cX6_remove 56 = .ok (.aload_n 0, 1) := by decide +kernel
theorem dX6_remove_57 : decode cX6_remove 57 = .ok (.getfield 15, 3) := by decide +kernel
theorem dX6_remove_60 : decode cX6_remove 60 = .ok (.iload_n 1, 1) := by decide +kernel
theorem dX6_remove_61 : decode cX6_remove 61 = .ok (.iconst (-1), 1) := by decide +kernel
theorem dX6_remove_62 : decode cX6_remove 62 = .ok (.invokestatic 25, 3) := by decide +kernel
theorem dX6_remove_65 : decode cX6_remove 65 = .ok (.return_, 1) := by decide +kernel
set_option maxHeartbeats 4000000 in
set_option maxRecDepth 100000 in
theorem kX6_remove (l : Launch) (z : Nat) (D : va_G) (cA : Nat → ClassId) (a0 : Nat) (x1 : Int32) (M : Mem) (K : Mem → Prop) (h : PX6_remove a0 x1 M K) : Met l yX6_remove (.code yX6_remove cX6_remove 4 none :: gtbl) ({ frames := 2, cells := 0, slots := 0, locals := 43 } : Room) (va_Pc [.ref a0, .int x1] (xB z D cA M)) (va_Qv K (xWd z D cA) (xA z)) 0 0 (xA z) := by
  refine x_met (by decide +kernel) (Nat.le_of_ble_eq_true rfl) (L0 := [(0, .ref a0), (1, .int x1)]) rfl ?_
  intro p e s m args below meth c E hr hlk hnm
  have E : xE RX6 cX6_remove 4 D cA p s m args c := E
  replace h := h.2
  refine x_aload_n E dX6_remove_0 rfl 0 rfl ?_
  refine x_iload_n E dX6_remove_1 rfl 1 rfl ?_
  refine x_callVi (T := TX6) (N := 3) (t := 7) (As := [.int x1]) E mlX6_50 inX6_indexOf seX6_indexOf rfl ⟨by decide, by decide⟩ (tX6_indexOf h) (kX6_indexOf l z D cA a0 x1 M _ h) rfl ⟨rfl, rfl⟩ ⟨Nat.le_of_ble_eq_true rfl, Nat.le_of_ble_eq_true rfl⟩ ⟨(Nat.le_of_ble_eq_true rfl), (Nat.le_of_ble_eq_true rfl)⟩ (Nat.le_of_ble_eq_true rfl) rfl dX6_remove_2 (x_pure (fun r1 h => ?_))
  refine x_istore_n (L' := [(2, .int r1), (0, .ref a0), (1, .int x1)]) E dX6_remove_5 rfl (by decide) rfl ?_
  refine x_iload_n E dX6_remove_6 rfl 0 rfl ?_
  refine x_iconst (v := (J (-1))) E dX6_remove_7 (by decide) ?_
  refine x_icmp_ne (tgt := 12) E dX6_remove_8 (by decide) (fun c3 => ?_) (fun c3 => ?_)
  · replace h := xbr_f h c3
    clear c3
    refine x_aload_n E dX6_remove_12 rfl 1 rfl ?_
    refine x_dup E dX6_remove_13 rfl ?_
    obtain ⟨hT, v4, hv, h⟩ := h
    refine x_get E flX6_21 dX6_remove_14 hT hv ?_
    clear hT hv
    refine x_iconst (v := (J 1)) E dX6_remove_17 (by decide) ?_
    refine x_isub E dX6_remove_18 ?_
    obtain ⟨hT, h⟩ := h
    refine x_put E flX6_21 ⟨tyX6_ok, nmX6, rfl⟩ (by decide +kernel) rfl rfl dX6_remove_19 hT (fun M5 eM5 => ?_)
    replace h := h M5 eM5
    clear hT eM5
    refine x_iload_n E dX6_remove_22 rfl 0 rfl ?_
    refine x_istore_n (L' := [(3, .int r1), (2, .int r1), (0, .ref a0), (1, .int x1)]) E dX6_remove_23 rfl (by decide) rfl ?_
    refine x_sub (L' := [(0, .ref a0), (1, .int x1), (3, .int r1)]) [2, 3, 0] rfl ?_
    refine lp_sound (T := fun sv => xG p l e ({ frames := 2, cells := 0, slots := 0, locals := 43 } : Room) s m args below meth c (MQ below (va_Qv K (xWd z D cA) (xA z)) args s 0 0 (xA z)) 4 z D cA sv.1 (0) (0) 24 [(0, .ref a0), (1, .int x1), (3, .int sv.2)] []) ?_ (M5, r1) h
    clear h
    intro kc24 hk24 sv h
    obtain ⟨M, x3⟩ := sv
    replace h : CX6_remove_24 K a0 x1 kc24 M x3 := h
    try dsimp only
    refine x_iload_n E dX6_remove_24 rfl 2 rfl ?_
    refine x_aload_n E dX6_remove_25 rfl 0 rfl ?_
    obtain ⟨hT, v6, hv, h⟩ := h
    refine x_get E flX6_21 dX6_remove_26 hT hv ?_
    clear hT hv
    refine x_icmp_ge (tgt := 56) E dX6_remove_29 (by decide) (fun c7 => ?_) (fun c7 => ?_)
    · replace h := xbr_t h c7
      clear c7
      refine x_aload_n E dX6_remove_56 rfl 0 rfl ?_
      obtain ⟨hT, q8, hv, h⟩ := h
      refine x_get E flX6_15 dX6_remove_57 hT hv ?_
      clear hT hv
      refine x_iload_n E dX6_remove_60 rfl 1 rfl ?_
      refine x_iconst (v := (J (-1))) E dX6_remove_61 (by decide) ?_
      refine x_callSNv (As := [.ref q8, .int x1, .int (J (-1))]) E mlX6_25 stX10_write (kX10_write l z D cA q8 x1 (J (-1)) M _ h) rfl ⟨rfl, rfl⟩ ⟨Nat.le_of_ble_eq_true rfl, Nat.le_of_ble_eq_true rfl⟩ ⟨(Nat.le_of_ble_eq_true rfl), (Nat.le_of_ble_eq_true rfl)⟩ (Nat.le_of_ble_eq_true rfl) rfl dX6_remove_62 (fun M10 h => ?_)
      exact x_vret E hr hlk dX6_remove_65 h
    · replace h := xbr_f h c7
      clear c7
      refine x_aload_n E dX6_remove_32 rfl 0 rfl ?_
      obtain ⟨hT, q11, hv, h⟩ := h
      refine x_get E flX6_9 dX6_remove_33 hT hv ?_
      clear hT hv
      refine x_iload_n E dX6_remove_36 rfl 2 rfl ?_
      refine x_aload_n E dX6_remove_37 rfl 0 rfl ?_
      obtain ⟨hT, q12, hv, h⟩ := h
      refine x_get E flX6_9 dX6_remove_38 hT hv ?_
      clear hT hv
      refine x_iload_n E dX6_remove_41 rfl 2 rfl ?_
      refine x_iconst (v := (J 1)) E dX6_remove_42 (by decide) ?_
      refine x_iadd E dX6_remove_43 ?_
      refine x_callSNi (As := [.ref q12, .int (x3 + (J 1))]) E mlX6_29 stX10_entry (kX10_entry l z D cA q12 (x3 + (J 1)) M _ h) rfl ⟨rfl, rfl⟩ ⟨Nat.le_of_ble_eq_true rfl, Nat.le_of_ble_eq_true rfl⟩ ⟨(Nat.le_of_ble_eq_true rfl), (Nat.le_of_ble_eq_true rfl)⟩ (Nat.le_of_ble_eq_true rfl) rfl dX6_remove_44 (x_pure (fun r13 h => ?_))
      refine x_callSNv (As := [.ref q11, .int x3, .int r13]) E mlX6_25 stX10_write (kX10_write l z D cA q11 x3 r13 M _ h) rfl ⟨rfl, rfl⟩ ⟨Nat.le_of_ble_eq_true rfl, Nat.le_of_ble_eq_true rfl⟩ ⟨(Nat.le_of_ble_eq_true rfl), (Nat.le_of_ble_eq_true rfl)⟩ (Nat.le_of_ble_eq_true rfl) rfl dX6_remove_47 (fun M16 h => ?_)
      refine x_iinc (v := (x3 + (J 1))) (L' := [(3, .int (x3 + (J 1))), (0, .ref a0), (1, .int x1)]) E dX6_remove_50 2 rfl rfl (by decide) rfl ?_
      refine x_goto (tgt := 24) E dX6_remove_53 (by decide) ?_
      refine x_sub (L' := [(0, .ref a0), (1, .int x1), (3, .int (x3 + (J 1)))]) [1, 2, 0] rfl ?_
      exact hk24 (M16, (x3 + (J 1))) h
  · replace h := xbr_t h c3
    clear c3
    exact x_vret E hr hlk dX6_remove_11 h
theorem dX6_edge_0 : decode cX6_edge 0 = .ok (.iload_n 2, 1) := by decide +kernel
theorem dX6_edge_1 : decode cX6_edge 1 = .ok (.iconst 1, 1) := by decide +kernel
theorem dX6_edge_2 : decode cX6_edge 2 = .ok (.if_icmp .ne 19, 3) := by decide +kernel
theorem dX6_edge_5 : decode cX6_edge 5 = .ok (.aload_n 0, 1) := by decide +kernel
theorem dX6_edge_6 : decode cX6_edge 6 = .ok (.aload_n 0, 1) := by decide +kernel
theorem dX6_edge_7 : decode cX6_edge 7 = .ok (.iload_n 1, 1) := by decide +kernel
theorem dX6_edge_8 : decode cX6_edge 8 = .ok (.iconst 1, 1) := by decide +kernel
theorem dX6_edge_9 : decode cX6_edge 9 = .ok (.iadd, 1) := by decide +kernel
theorem dX6_edge_10 : decode cX6_edge 10 = .ok (.invokevirtual 47, 3) := by decide +kernel
theorem dX6_edge_13 : decode cX6_edge 13 = .ok (.iconst 1, 1) := by decide +kernel
theorem dX6_edge_14 : decode cX6_edge 14 = .ok (.isub, 1) := by decide +kernel
theorem dX6_edge_15 : decode cX6_edge 15 = .ok (.invokevirtual 37, 3) := by decide +kernel
theorem dX6_edge_18 : decode cX6_edge 18 = .ok (.goto 12, 3) := by decide +kernel
theorem dX6_edge_21 : decode cX6_edge 21 = .ok (.aload_n 0, 1) := by decide +kernel
theorem dX6_edge_22 : decode cX6_edge 22 = .ok (.aload_n 0, 1) := by decide +kernel
theorem dX6_edge_23 : decode cX6_edge 23 = .ok (.iload_n 1, 1) := by decide +kernel
theorem dX6_edge_24 : decode cX6_edge 24 = .ok (.invokevirtual 47, 3) := by decide +kernel
theorem dX6_edge_27 : decode cX6_edge 27 = .ok (.invokevirtual 37, 3) := by decide +kernel
theorem dX6_edge_30 : decode cX6_edge 30 = .ok (.ireturn, 1) := by decide +kernel
set_option maxHeartbeats 4000000 in
set_option maxRecDepth 100000 in
theorem kX6_edge (l : Launch) (z : Nat) (D : va_G) (cA : Nat → ClassId) (a0 : Nat) (x1 : Int32) (x2 : Int32) (M : Mem) (K : Int32 → Prop) (h : PX6_edge a0 x1 x2 M K) : Met l yX6_edge (.code yX6_edge cX6_edge 3 (some .int) :: gtbl) ({ frames := 1, cells := 0, slots := 0, locals := 26 } : Room) (va_Pc [.ref a0, .int x1, .int x2] (xB z D cA M)) (va_Qi (fun r M1 => M1 = M ∧ K r) (xWd z D cA) (xA z)) 0 0 (xA z) := by
  refine x_met (by decide +kernel) (Nat.le_of_ble_eq_true rfl) (L0 := [(0, .ref a0), (1, .int x1), (2, .int x2)]) rfl ?_
  intro p e s m args below meth c E hr hlk hnm
  have E : xE RX6 cX6_edge 3 D cA p s m args c := E
  replace h := h.2
  refine x_iload_n E dX6_edge_0 rfl 2 rfl ?_
  refine x_iconst (v := (J 1)) E dX6_edge_1 (by decide) ?_
  refine x_icmp_ne (tgt := 21) E dX6_edge_2 (by decide) (fun c1 => ?_) (fun c1 => ?_)
  · replace h := xbr_f h c1
    clear c1
    refine x_aload_n E dX6_edge_21 rfl 0 rfl ?_
    refine x_aload_n E dX6_edge_22 rfl 0 rfl ?_
    refine x_iload_n E dX6_edge_23 rfl 1 rfl ?_
    refine x_callVi (T := TX6) (N := 3) (t := 7) (As := [.int x1]) E mlX6_47 inX6_start seX6_start rfl ⟨by decide, by decide⟩ (tX6_start h) (kX6_start l z D cA a0 x1 M _ h) rfl ⟨rfl, rfl⟩ ⟨Nat.le_of_ble_eq_true rfl, Nat.le_of_ble_eq_true rfl⟩ ⟨(Nat.le_of_ble_eq_true rfl), (Nat.le_of_ble_eq_true rfl)⟩ (Nat.le_of_ble_eq_true rfl) rfl dX6_edge_24 (x_pure (fun r2 h => ?_))
    refine x_callVi (T := TX6) (N := 3) (t := 7) (As := [.int r2]) E mlX6_37 inX6_bookAt seX6_bookAt rfl ⟨by decide, by decide⟩ (tX6_bookAt h) (kX6_bookAt l z D cA a0 r2 M _ h) rfl ⟨rfl, rfl⟩ ⟨Nat.le_of_ble_eq_true rfl, Nat.le_of_ble_eq_true rfl⟩ ⟨(Nat.le_of_ble_eq_true rfl), (Nat.le_of_ble_eq_true rfl)⟩ (Nat.le_of_ble_eq_true rfl) rfl dX6_edge_27 (x_pure (fun r4 h => ?_))
    exact x_iret E hr hlk dX6_edge_30 ⟨rfl, h⟩
  · replace h := xbr_t h c1
    clear c1
    refine x_aload_n E dX6_edge_5 rfl 0 rfl ?_
    refine x_aload_n E dX6_edge_6 rfl 0 rfl ?_
    refine x_iload_n E dX6_edge_7 rfl 1 rfl ?_
    refine x_iconst (v := (J 1)) E dX6_edge_8 (by decide) ?_
    refine x_iadd E dX6_edge_9 ?_
    refine x_callVi (T := TX6) (N := 3) (t := 7) (As := [.int (x1 + (J 1))]) E mlX6_47 inX6_start seX6_start rfl ⟨by decide, by decide⟩ (tX6_start h) (kX6_start l z D cA a0 (x1 + (J 1)) M _ h) rfl ⟨rfl, rfl⟩ ⟨Nat.le_of_ble_eq_true rfl, Nat.le_of_ble_eq_true rfl⟩ ⟨(Nat.le_of_ble_eq_true rfl), (Nat.le_of_ble_eq_true rfl)⟩ (Nat.le_of_ble_eq_true rfl) rfl dX6_edge_10 (x_pure (fun r6 h => ?_))
    refine x_iconst (v := (J 1)) E dX6_edge_13 (by decide) ?_
    refine x_isub E dX6_edge_14 ?_
    refine x_callVi (T := TX6) (N := 3) (t := 7) (As := [.int (r6 - (J 1))]) E mlX6_37 inX6_bookAt seX6_bookAt rfl ⟨by decide, by decide⟩ (tX6_bookAt h) (kX6_bookAt l z D cA a0 (r6 - (J 1)) M _ h) rfl ⟨rfl, rfl⟩ ⟨Nat.le_of_ble_eq_true rfl, Nat.le_of_ble_eq_true rfl⟩ ⟨(Nat.le_of_ble_eq_true rfl), (Nat.le_of_ble_eq_true rfl)⟩ (Nat.le_of_ble_eq_true rfl) rfl dX6_edge_15 (x_pure (fun r8 h => ?_))
    refine x_goto (tgt := 30) E dX6_edge_18 (by decide) ?_
    exact x_iret E hr hlk dX6_edge_30 ⟨rfl, h⟩
