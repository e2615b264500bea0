/-! the layout, place by place (by program) -/
section ACC
variable {z : Nat} {g : Mem} {C : Nat → Nat → Int}
theorem t_0 {K : Prop} : tS (lay z g C) 11 (ad z 0) K = K := tS_lay rfl
theorem q_0_0 {K : Nat → Prop} : gR (lay z g C) 11 (ad z 0) 0 K = K (ad z 1) := gR_lay rfl
theorem q_0_1 {K : Nat → Prop} : gR (lay z g C) 11 (ad z 0) 1 K = K (ad z 3) := gR_lay rfl
theorem q_0_2 {K : Nat → Prop} : gR (lay z g C) 11 (ad z 0) 2 K = K (ad z 80) := gR_lay rfl
theorem q_0_3 {K : Nat → Prop} : gR (lay z g C) 11 (ad z 0) 3 K = K (ad z 82) := gR_lay rfl
theorem q_0_4 {K : Nat → Prop} : gR (lay z g C) 11 (ad z 0) 4 K = K (ad z 85) := gR_lay rfl
theorem q_0_5 {K : Nat → Prop} : gR (lay z g C) 11 (ad z 0) 5 K = K (ad z 88) := gR_lay rfl
theorem q_0_6 {K : Nat → Prop} : gR (lay z g C) 11 (ad z 0) 6 K = K (ad z 90) := gR_lay rfl
theorem q_0_7 {K : Nat → Prop} : gR (lay z g C) 11 (ad z 0) 7 K = K (ad z 92) := gR_lay rfl
theorem q_0_8 {K : Nat → Prop} : gR (lay z g C) 11 (ad z 0) 8 K = K (ad z 96) := gR_lay rfl
theorem q_0_9 {K : Nat → Prop} : gR (lay z g C) 11 (ad z 0) 9 K = K (ad z 100) := gR_lay rfl
theorem i_0_10 {K : Int32 → Prop} : gI (lay z g C) 11 (ad z 0) 10 K = K (J (C 0 10)) := gI_lay rfl
theorem p_0_10 {K : Mem → Prop} {v : Int} : pF (lay z g C) 11 (ad z 0) 10 (.int (J v)) K = K (lay z g (up C 0 10 v)) := pF_lay rfl
theorem i_0_11 {K : Int32 → Prop} : gI (lay z g C) 11 (ad z 0) 11 K = K (J (C 0 11)) := gI_lay rfl
theorem p_0_11 {K : Mem → Prop} {v : Int} : pF (lay z g C) 11 (ad z 0) 11 (.int (J v)) K = K (lay z g (up C 0 11 v)) := pF_lay rfl
theorem i_0_12 {K : Int32 → Prop} : gI (lay z g C) 11 (ad z 0) 12 K = K (J (C 0 12)) := gI_lay rfl
theorem p_0_12 {K : Mem → Prop} {v : Int} : pF (lay z g C) 11 (ad z 0) 12 (.int (J v)) K = K (lay z g (up C 0 12 v)) := pF_lay rfl
theorem t_1 {K : Prop} : tS (lay z g C) 2 (ad z 1) K = K := tS_lay rfl
theorem q_1_0 {K : Nat → Prop} : gR (lay z g C) 2 (ad z 1) 0 K = K (ad z 2) := gR_lay rfl
theorem t_3 {K : Prop} : tS (lay z g C) 3 (ad z 3) K = K := tS_lay rfl
theorem q_3_0 {K : Nat → Prop} : gR (lay z g C) 3 (ad z 3) 0 K = K (ad z 4) := gR_lay rfl
theorem q_3_1 {K : Nat → Prop} : gR (lay z g C) 3 (ad z 3) 1 K = K (ad z 5) := gR_lay rfl
theorem i_3_2 {K : Int32 → Prop} : gI (lay z g C) 3 (ad z 3) 2 K = K (J (C 3 2)) := gI_lay rfl
theorem p_3_2 {K : Mem → Prop} {v : Int} : pF (lay z g C) 3 (ad z 3) 2 (.int (J v)) K = K (lay z g (up C 3 2 v)) := pF_lay rfl
theorem i_3_3 {K : Int32 → Prop} : gI (lay z g C) 3 (ad z 3) 3 K = K (J (C 3 3)) := gI_lay rfl
theorem p_3_3 {K : Mem → Prop} {v : Int} : pF (lay z g C) 3 (ad z 3) 3 (.int (J v)) K = K (lay z g (up C 3 3 v)) := pF_lay rfl
theorem t_80 {K : Prop} : tS (lay z g C) 9 (ad z 80) K = K := tS_lay rfl
theorem q_80_0 {K : Nat → Prop} : gR (lay z g C) 9 (ad z 80) 0 K = K (ad z 81) := gR_lay rfl
theorem t_88 {K : Prop} : tS (lay z g C) 10 (ad z 88) K = K := tS_lay rfl
theorem q_88_0 {K : Nat → Prop} : gR (lay z g C) 10 (ad z 88) 0 K = K (ad z 89) := gR_lay rfl
theorem t_90 {K : Prop} : tS (lay z g C) 4 (ad z 90) K = K := tS_lay rfl
theorem q_90_0 {K : Nat → Prop} : gR (lay z g C) 4 (ad z 90) 0 K = K (ad z 91) := gR_lay rfl
theorem t_92 {K : Prop} : tS (lay z g C) 8 (ad z 92) K = K := tS_lay rfl
theorem q_92_0 {K : Nat → Prop} : gR (lay z g C) 8 (ad z 92) 0 K = K (ad z 93) := gR_lay rfl
theorem q_92_1 {K : Nat → Prop} : gR (lay z g C) 8 (ad z 92) 1 K = K (ad z 94) := gR_lay rfl
theorem q_92_2 {K : Nat → Prop} : gR (lay z g C) 8 (ad z 92) 2 K = K (ad z 95) := gR_lay rfl
theorem i_92_3 {K : Int32 → Prop} : gI (lay z g C) 8 (ad z 92) 3 K = K (J (C 92 3)) := gI_lay rfl
theorem p_92_3 {K : Mem → Prop} {v : Int} : pF (lay z g C) 8 (ad z 92) 3 (.int (J v)) K = K (lay z g (up C 92 3 v)) := pF_lay rfl
theorem i_92_4 {K : Int32 → Prop} : gI (lay z g C) 8 (ad z 92) 4 K = K (J (C 92 4)) := gI_lay rfl
theorem p_92_4 {K : Mem → Prop} {v : Int} : pF (lay z g C) 8 (ad z 92) 4 (.int (J v)) K = K (lay z g (up C 92 4 v)) := pF_lay rfl
theorem t_96 {K : Prop} : tS (lay z g C) 5 (ad z 96) K = K := tS_lay rfl
theorem q_96_0 {K : Nat → Prop} : gR (lay z g C) 5 (ad z 96) 0 K = K (ad z 97) := gR_lay rfl
theorem i_96_1 {K : Int32 → Prop} : gI (lay z g C) 5 (ad z 96) 1 K = K (J (C 96 1)) := gI_lay rfl
theorem p_96_1 {K : Mem → Prop} {v : Int} : pF (lay z g C) 5 (ad z 96) 1 (.int (J v)) K = K (lay z g (up C 96 1 v)) := pF_lay rfl
theorem i_96_2 {K : Int32 → Prop} : gI (lay z g C) 5 (ad z 96) 2 K = K (J (C 96 2)) := gI_lay rfl
theorem p_96_2 {K : Mem → Prop} {v : Int} : pF (lay z g C) 5 (ad z 96) 2 (.int (J v)) K = K (lay z g (up C 96 2 v)) := pF_lay rfl
theorem i_96_3 {K : Int32 → Prop} : gI (lay z g C) 5 (ad z 96) 3 K = K (J (C 96 3)) := gI_lay rfl
theorem p_96_3 {K : Mem → Prop} {v : Int} : pF (lay z g C) 5 (ad z 96) 3 (.int (J v)) K = K (lay z g (up C 96 3 v)) := pF_lay rfl
theorem t_100 {K : Prop} : tS (lay z g C) 5 (ad z 100) K = K := tS_lay rfl
theorem q_100_0 {K : Nat → Prop} : gR (lay z g C) 5 (ad z 100) 0 K = K (ad z 101) := gR_lay rfl
theorem i_100_1 {K : Int32 → Prop} : gI (lay z g C) 5 (ad z 100) 1 K = K (J (C 100 1)) := gI_lay rfl
theorem p_100_1 {K : Mem → Prop} {v : Int} : pF (lay z g C) 5 (ad z 100) 1 (.int (J v)) K = K (lay z g (up C 100 1 v)) := pF_lay rfl
theorem i_100_2 {K : Int32 → Prop} : gI (lay z g C) 5 (ad z 100) 2 K = K (J (C 100 2)) := gI_lay rfl
theorem p_100_2 {K : Mem → Prop} {v : Int} : pF (lay z g C) 5 (ad z 100) 2 (.int (J v)) K = K (lay z g (up C 100 2 v)) := pF_lay rfl
theorem i_100_3 {K : Int32 → Prop} : gI (lay z g C) 5 (ad z 100) 3 K = K (J (C 100 3)) := gI_lay rfl
theorem p_100_3 {K : Mem → Prop} {v : Int} : pF (lay z g C) 5 (ad z 100) 3 (.int (J v)) K = K (lay z g (up C 100 3 v)) := pF_lay rfl
theorem t_104 {K : Prop} : tS (lay z g C) 12 (ad z 104) K = K := tS_lay rfl
theorem q_104_1 {K : Nat → Prop} : gR (lay z g C) 12 (ad z 104) 1 K = K (ad z 105) := gR_lay rfl
theorem q_104_2 {K : Nat → Prop} : gR (lay z g C) 12 (ad z 104) 2 K = K (ad z 106) := gR_lay rfl
theorem q_104_3 {K : Nat → Prop} : gR (lay z g C) 12 (ad z 104) 3 K = K (ad z 107) := gR_lay rfl
theorem q_104_4 {K : Nat → Prop} : gR (lay z g C) 12 (ad z 104) 4 K = K (ad z 108) := gR_lay rfl
theorem q_104_5 {K : Nat → Prop} : gR (lay z g C) 12 (ad z 104) 5 K = K (ad z 109) := gR_lay rfl
theorem q_104_6 {K : Nat → Prop} : gR (lay z g C) 12 (ad z 104) 6 K = K (ad z 110) := gR_lay rfl
theorem q_104_8 {K : Nat → Prop} : gR (lay z g C) 12 (ad z 104) 8 K = K (ad z 111) := gR_lay rfl
theorem q_104_9 {K : Nat → Prop} : gR (lay z g C) 12 (ad z 104) 9 K = K (ad z 112) := gR_lay rfl
theorem q_104_11 {K : Nat → Prop} : gR (lay z g C) 12 (ad z 104) 11 K = K (ad z 113) := gR_lay rfl
theorem q_104_12 {K : Nat → Prop} : gR (lay z g C) 12 (ad z 104) 12 K = K (ad z 114) := gR_lay rfl
theorem q_104_18 {K : Nat → Prop} : gR (lay z g C) 12 (ad z 104) 18 K = K (ad z 115) := gR_lay rfl
theorem q_104_21 {K : Nat → Prop} : gR (lay z g C) 12 (ad z 104) 21 K = K (ad z 116) := gR_lay rfl
theorem q_104_22 {K : Nat → Prop} : gR (lay z g C) 12 (ad z 104) 22 K = K (ad z 117) := gR_lay rfl
theorem q_104_23 {K : Nat → Prop} : gR (lay z g C) 12 (ad z 104) 23 K = K (ad z 118) := gR_lay rfl
theorem q_104_24 {K : Nat → Prop} : gR (lay z g C) 12 (ad z 104) 24 K = K (ad z 119) := gR_lay rfl
theorem q_104_26 {K : Nat → Prop} : gR (lay z g C) 12 (ad z 104) 26 K = K (ad z 120) := gR_lay rfl
theorem q_104_27 {K : Nat → Prop} : gR (lay z g C) 12 (ad z 104) 27 K = K (ad z 121) := gR_lay rfl
theorem q_104_28 {K : Nat → Prop} : gR (lay z g C) 12 (ad z 104) 28 K = K (ad z 122) := gR_lay rfl
theorem q_104_30 {K : Nat → Prop} : gR (lay z g C) 12 (ad z 104) 30 K = K (ad z 123) := gR_lay rfl
theorem q_104_31 {K : Nat → Prop} : gR (lay z g C) 12 (ad z 104) 31 K = K (ad z 124) := gR_lay rfl
theorem i_104_0 {K : Int32 → Prop} : gI (lay z g C) 12 (ad z 104) 0 K = K (J (C 104 0)) := gI_lay rfl
theorem p_104_0 {K : Mem → Prop} {v : Int} : pF (lay z g C) 12 (ad z 104) 0 (.int (J v)) K = K (lay z g (up C 104 0 v)) := pF_lay rfl
theorem i_104_7 {K : Int32 → Prop} : gI (lay z g C) 12 (ad z 104) 7 K = K (J (C 104 7)) := gI_lay rfl
theorem p_104_7 {K : Mem → Prop} {v : Int} : pF (lay z g C) 12 (ad z 104) 7 (.int (J v)) K = K (lay z g (up C 104 7 v)) := pF_lay rfl
theorem i_104_10 {K : Int32 → Prop} : gI (lay z g C) 12 (ad z 104) 10 K = K (J (C 104 10)) := gI_lay rfl
theorem p_104_10 {K : Mem → Prop} {v : Int} : pF (lay z g C) 12 (ad z 104) 10 (.int (J v)) K = K (lay z g (up C 104 10 v)) := pF_lay rfl
theorem i_104_13 {K : Int32 → Prop} : gI (lay z g C) 12 (ad z 104) 13 K = K (J (C 104 13)) := gI_lay rfl
theorem p_104_13 {K : Mem → Prop} {v : Int} : pF (lay z g C) 12 (ad z 104) 13 (.int (J v)) K = K (lay z g (up C 104 13 v)) := pF_lay rfl
theorem i_104_14 {K : Int32 → Prop} : gI (lay z g C) 12 (ad z 104) 14 K = K (J (C 104 14)) := gI_lay rfl
theorem p_104_14 {K : Mem → Prop} {v : Int} : pF (lay z g C) 12 (ad z 104) 14 (.int (J v)) K = K (lay z g (up C 104 14 v)) := pF_lay rfl
theorem i_104_15 {K : Int32 → Prop} : gI (lay z g C) 12 (ad z 104) 15 K = K (J (C 104 15)) := gI_lay rfl
theorem p_104_15 {K : Mem → Prop} {v : Int} : pF (lay z g C) 12 (ad z 104) 15 (.int (J v)) K = K (lay z g (up C 104 15 v)) := pF_lay rfl
theorem i_104_16 {K : Int32 → Prop} : gI (lay z g C) 12 (ad z 104) 16 K = K (J (C 104 16)) := gI_lay rfl
theorem p_104_16 {K : Mem → Prop} {v : Int} : pF (lay z g C) 12 (ad z 104) 16 (.int (J v)) K = K (lay z g (up C 104 16 v)) := pF_lay rfl
theorem i_104_17 {K : Int32 → Prop} : gI (lay z g C) 12 (ad z 104) 17 K = K (J (C 104 17)) := gI_lay rfl
theorem p_104_17 {K : Mem → Prop} {v : Int} : pF (lay z g C) 12 (ad z 104) 17 (.int (J v)) K = K (lay z g (up C 104 17 v)) := pF_lay rfl
theorem i_104_19 {K : Int32 → Prop} : gI (lay z g C) 12 (ad z 104) 19 K = K (J (C 104 19)) := gI_lay rfl
theorem p_104_19 {K : Mem → Prop} {v : Int} : pF (lay z g C) 12 (ad z 104) 19 (.int (J v)) K = K (lay z g (up C 104 19 v)) := pF_lay rfl
theorem i_104_20 {K : Int32 → Prop} : gI (lay z g C) 12 (ad z 104) 20 K = K (J (C 104 20)) := gI_lay rfl
theorem p_104_20 {K : Mem → Prop} {v : Int} : pF (lay z g C) 12 (ad z 104) 20 (.int (J v)) K = K (lay z g (up C 104 20 v)) := pF_lay rfl
theorem i_104_25 {K : Int32 → Prop} : gI (lay z g C) 12 (ad z 104) 25 K = K (J (C 104 25)) := gI_lay rfl
theorem p_104_25 {K : Mem → Prop} {v : Int} : pF (lay z g C) 12 (ad z 104) 25 (.int (J v)) K = K (lay z g (up C 104 25 v)) := pF_lay rfl
theorem i_104_29 {K : Int32 → Prop} : gI (lay z g C) 12 (ad z 104) 29 K = K (J (C 104 29)) := gI_lay rfl
theorem p_104_29 {K : Mem → Prop} {v : Int} : pF (lay z g C) 12 (ad z 104) 29 (.int (J v)) K = K (lay z g (up C 104 29 v)) := pF_lay rfl
theorem a_2 {K : Int32 → Prop} {i : Int} (h1 : 0 ≤ i) (h2 : i < 600) : aI (lay z g C) (ad z 2) (J i) K = K (J (C 2 i.toNat)) := aI_lay (N := 600) rfl h1 h2
theorem w_2 {K : Mem → Prop} {i v : Int} (h1 : 0 ≤ i) (h2 : i < 600) : aS (lay z g C) (ad z 2) (J i) (J v) K = K (lay z g (up C 2 i.toNat v)) := aS_lay (N := 600) rfl h1 h2
theorem a_81 {K : Int32 → Prop} {i : Int} (h1 : 0 ≤ i) (h2 : i < 8) : aI (lay z g C) (ad z 81) (J i) K = K (J (C 81 i.toNat)) := aI_lay (N := 8) rfl h1 h2
theorem w_81 {K : Mem → Prop} {i v : Int} (h1 : 0 ≤ i) (h2 : i < 8) : aS (lay z g C) (ad z 81) (J i) (J v) K = K (lay z g (up C 81 i.toNat v)) := aS_lay (N := 8) rfl h1 h2
theorem a_89 {K : Int32 → Prop} {i : Int} (h1 : 0 ≤ i) (h2 : i < 24) : aI (lay z g C) (ad z 89) (J i) K = K (J (C 89 i.toNat)) := aI_lay (N := 24) rfl h1 h2
theorem w_89 {K : Mem → Prop} {i v : Int} (h1 : 0 ≤ i) (h2 : i < 24) : aS (lay z g C) (ad z 89) (J i) (J v) K = K (lay z g (up C 89 i.toNat v)) := aS_lay (N := 24) rfl h1 h2
theorem a_91 {K : Int32 → Prop} {i : Int} (h1 : 0 ≤ i) (h2 : i < 5) : aI (lay z g C) (ad z 91) (J i) K = K (J (C 91 i.toNat)) := aI_lay (N := 5) rfl h1 h2
theorem w_91 {K : Mem → Prop} {i v : Int} (h1 : 0 ≤ i) (h2 : i < 5) : aS (lay z g C) (ad z 91) (J i) (J v) K = K (lay z g (up C 91 i.toNat v)) := aS_lay (N := 5) rfl h1 h2
theorem a_93 {K : Int32 → Prop} {i : Int} (h1 : 0 ≤ i) (h2 : i < 8) : aI (lay z g C) (ad z 93) (J i) K = K (J (C 93 i.toNat)) := aI_lay (N := 8) rfl h1 h2
theorem w_93 {K : Mem → Prop} {i v : Int} (h1 : 0 ≤ i) (h2 : i < 8) : aS (lay z g C) (ad z 93) (J i) (J v) K = K (lay z g (up C 93 i.toNat v)) := aS_lay (N := 8) rfl h1 h2
theorem a_94 {K : Int32 → Prop} {i : Int} (h1 : 0 ≤ i) (h2 : i < 8) : aI (lay z g C) (ad z 94) (J i) K = K (J (C 94 i.toNat)) := aI_lay (N := 8) rfl h1 h2
theorem w_94 {K : Mem → Prop} {i v : Int} (h1 : 0 ≤ i) (h2 : i < 8) : aS (lay z g C) (ad z 94) (J i) (J v) K = K (lay z g (up C 94 i.toNat v)) := aS_lay (N := 8) rfl h1 h2
theorem a_95 {K : Int32 → Prop} {i : Int} (h1 : 0 ≤ i) (h2 : i < 8) : aI (lay z g C) (ad z 95) (J i) K = K (J (C 95 i.toNat)) := aI_lay (N := 8) rfl h1 h2
theorem w_95 {K : Mem → Prop} {i v : Int} (h1 : 0 ≤ i) (h2 : i < 8) : aS (lay z g C) (ad z 95) (J i) (J v) K = K (lay z g (up C 95 i.toNat v)) := aS_lay (N := 8) rfl h1 h2
theorem a_105 {K : Int32 → Prop} {i : Int} (h1 : 0 ≤ i) (h2 : i < 384) : aI (lay z g C) (ad z 105) (J i) K = K (J (C 105 i.toNat)) := aI_lay (N := 384) rfl h1 h2
theorem w_105 {K : Mem → Prop} {i v : Int} (h1 : 0 ≤ i) (h2 : i < 384) : aS (lay z g C) (ad z 105) (J i) (J v) K = K (lay z g (up C 105 i.toNat v)) := aS_lay (N := 384) rfl h1 h2
theorem a_106 {K : Int32 → Prop} {i : Int} (h1 : 0 ≤ i) (h2 : i < 24) : aI (lay z g C) (ad z 106) (J i) K = K (J (C 106 i.toNat)) := aI_lay (N := 24) rfl h1 h2
theorem w_106 {K : Mem → Prop} {i v : Int} (h1 : 0 ≤ i) (h2 : i < 24) : aS (lay z g C) (ad z 106) (J i) (J v) K = K (lay z g (up C 106 i.toNat v)) := aS_lay (N := 24) rfl h1 h2
theorem a_107 {K : Int32 → Prop} {i : Int} (h1 : 0 ≤ i) (h2 : i < 24) : aI (lay z g C) (ad z 107) (J i) K = K (J (C 107 i.toNat)) := aI_lay (N := 24) rfl h1 h2
theorem w_107 {K : Mem → Prop} {i v : Int} (h1 : 0 ≤ i) (h2 : i < 24) : aS (lay z g C) (ad z 107) (J i) (J v) K = K (lay z g (up C 107 i.toNat v)) := aS_lay (N := 24) rfl h1 h2
theorem a_108 {K : Int32 → Prop} {i : Int} (h1 : 0 ≤ i) (h2 : i < 24) : aI (lay z g C) (ad z 108) (J i) K = K (J (C 108 i.toNat)) := aI_lay (N := 24) rfl h1 h2
theorem w_108 {K : Mem → Prop} {i v : Int} (h1 : 0 ≤ i) (h2 : i < 24) : aS (lay z g C) (ad z 108) (J i) (J v) K = K (lay z g (up C 108 i.toNat v)) := aS_lay (N := 24) rfl h1 h2
theorem a_109 {K : Int32 → Prop} {i : Int} (h1 : 0 ≤ i) (h2 : i < 24) : aI (lay z g C) (ad z 109) (J i) K = K (J (C 109 i.toNat)) := aI_lay (N := 24) rfl h1 h2
theorem w_109 {K : Mem → Prop} {i v : Int} (h1 : 0 ≤ i) (h2 : i < 24) : aS (lay z g C) (ad z 109) (J i) (J v) K = K (lay z g (up C 109 i.toNat v)) := aS_lay (N := 24) rfl h1 h2
theorem a_110 {K : Int32 → Prop} {i : Int} (h1 : 0 ≤ i) (h2 : i < 8) : aI (lay z g C) (ad z 110) (J i) K = K (J (C 110 i.toNat)) := aI_lay (N := 8) rfl h1 h2
theorem w_110 {K : Mem → Prop} {i v : Int} (h1 : 0 ≤ i) (h2 : i < 8) : aS (lay z g C) (ad z 110) (J i) (J v) K = K (lay z g (up C 110 i.toNat v)) := aS_lay (N := 8) rfl h1 h2
theorem a_111 {K : Int32 → Prop} {i : Int} (h1 : 0 ≤ i) (h2 : i < 25) : aI (lay z g C) (ad z 111) (J i) K = K (J (C 111 i.toNat)) := aI_lay (N := 25) rfl h1 h2
theorem w_111 {K : Mem → Prop} {i v : Int} (h1 : 0 ≤ i) (h2 : i < 25) : aS (lay z g C) (ad z 111) (J i) (J v) K = K (lay z g (up C 111 i.toNat v)) := aS_lay (N := 25) rfl h1 h2
theorem a_112 {K : Int32 → Prop} {i : Int} (h1 : 0 ≤ i) (h2 : i < 8) : aI (lay z g C) (ad z 112) (J i) K = K (J (C 112 i.toNat)) := aI_lay (N := 8) rfl h1 h2
theorem w_112 {K : Mem → Prop} {i v : Int} (h1 : 0 ≤ i) (h2 : i < 8) : aS (lay z g C) (ad z 112) (J i) (J v) K = K (lay z g (up C 112 i.toNat v)) := aS_lay (N := 8) rfl h1 h2
theorem a_113 {K : Int32 → Prop} {i : Int} (h1 : 0 ≤ i) (h2 : i < 5) : aI (lay z g C) (ad z 113) (J i) K = K (J (C 113 i.toNat)) := aI_lay (N := 5) rfl h1 h2
theorem w_113 {K : Mem → Prop} {i v : Int} (h1 : 0 ≤ i) (h2 : i < 5) : aS (lay z g C) (ad z 113) (J i) (J v) K = K (lay z g (up C 113 i.toNat v)) := aS_lay (N := 5) rfl h1 h2
theorem a_114 {K : Int32 → Prop} {i : Int} (h1 : 0 ≤ i) (h2 : i < 600) : aI (lay z g C) (ad z 114) (J i) K = K (J (C 114 i.toNat)) := aI_lay (N := 600) rfl h1 h2
theorem w_114 {K : Mem → Prop} {i v : Int} (h1 : 0 ≤ i) (h2 : i < 600) : aS (lay z g C) (ad z 114) (J i) (J v) K = K (lay z g (up C 114 i.toNat v)) := aS_lay (N := 600) rfl h1 h2
theorem a_115 {K : Int32 → Prop} {i : Int} (h1 : 0 ≤ i) (h2 : i < 24) : aI (lay z g C) (ad z 115) (J i) K = K (J (C 115 i.toNat)) := aI_lay (N := 24) rfl h1 h2
theorem w_115 {K : Mem → Prop} {i v : Int} (h1 : 0 ≤ i) (h2 : i < 24) : aS (lay z g C) (ad z 115) (J i) (J v) K = K (lay z g (up C 115 i.toNat v)) := aS_lay (N := 24) rfl h1 h2
theorem a_116 {K : Int32 → Prop} {i : Int} (h1 : 0 ≤ i) (h2 : i < 25) : aI (lay z g C) (ad z 116) (J i) K = K (J (C 116 i.toNat)) := aI_lay (N := 25) rfl h1 h2
theorem w_116 {K : Mem → Prop} {i v : Int} (h1 : 0 ≤ i) (h2 : i < 25) : aS (lay z g C) (ad z 116) (J i) (J v) K = K (lay z g (up C 116 i.toNat v)) := aS_lay (N := 25) rfl h1 h2
theorem a_117 {K : Int32 → Prop} {i : Int} (h1 : 0 ≤ i) (h2 : i < 8) : aI (lay z g C) (ad z 117) (J i) K = K (J (C 117 i.toNat)) := aI_lay (N := 8) rfl h1 h2
theorem w_117 {K : Mem → Prop} {i v : Int} (h1 : 0 ≤ i) (h2 : i < 8) : aS (lay z g C) (ad z 117) (J i) (J v) K = K (lay z g (up C 117 i.toNat v)) := aS_lay (N := 8) rfl h1 h2
theorem a_118 {K : Int32 → Prop} {i : Int} (h1 : 0 ≤ i) (h2 : i < 650) : aI (lay z g C) (ad z 118) (J i) K = K (J (C 118 i.toNat)) := aI_lay (N := 650) rfl h1 h2
theorem w_118 {K : Mem → Prop} {i v : Int} (h1 : 0 ≤ i) (h2 : i < 650) : aS (lay z g C) (ad z 118) (J i) (J v) K = K (lay z g (up C 118 i.toNat v)) := aS_lay (N := 650) rfl h1 h2
theorem a_119 {K : Int32 → Prop} {i : Int} (h1 : 0 ≤ i) (h2 : i < 24) : aI (lay z g C) (ad z 119) (J i) K = K (J (C 119 i.toNat)) := aI_lay (N := 24) rfl h1 h2
theorem w_119 {K : Mem → Prop} {i v : Int} (h1 : 0 ≤ i) (h2 : i < 24) : aS (lay z g C) (ad z 119) (J i) (J v) K = K (lay z g (up C 119 i.toNat v)) := aS_lay (N := 24) rfl h1 h2
theorem a_120 {K : Int32 → Prop} {i : Int} (h1 : 0 ≤ i) (h2 : i < 5) : aI (lay z g C) (ad z 120) (J i) K = K (J (C 120 i.toNat)) := aI_lay (N := 5) rfl h1 h2
theorem w_120 {K : Mem → Prop} {i v : Int} (h1 : 0 ≤ i) (h2 : i < 5) : aS (lay z g C) (ad z 120) (J i) (J v) K = K (lay z g (up C 120 i.toNat v)) := aS_lay (N := 5) rfl h1 h2
theorem a_121 {K : Int32 → Prop} {i : Int} (h1 : 0 ≤ i) (h2 : i < 5) : aI (lay z g C) (ad z 121) (J i) K = K (J (C 121 i.toNat)) := aI_lay (N := 5) rfl h1 h2
theorem w_121 {K : Mem → Prop} {i v : Int} (h1 : 0 ≤ i) (h2 : i < 5) : aS (lay z g C) (ad z 121) (J i) (J v) K = K (lay z g (up C 121 i.toNat v)) := aS_lay (N := 5) rfl h1 h2
theorem a_122 {K : Int32 → Prop} {i : Int} (h1 : 0 ≤ i) (h2 : i < 8) : aI (lay z g C) (ad z 122) (J i) K = K (J (C 122 i.toNat)) := aI_lay (N := 8) rfl h1 h2
theorem w_122 {K : Mem → Prop} {i v : Int} (h1 : 0 ≤ i) (h2 : i < 8) : aS (lay z g C) (ad z 122) (J i) (J v) K = K (lay z g (up C 122 i.toNat v)) := aS_lay (N := 8) rfl h1 h2
theorem a_123 {K : Int32 → Prop} {i : Int} (h1 : 0 ≤ i) (h2 : i < 80) : aI (lay z g C) (ad z 123) (J i) K = K (J (C 123 i.toNat)) := aI_lay (N := 80) rfl h1 h2
theorem w_123 {K : Mem → Prop} {i v : Int} (h1 : 0 ≤ i) (h2 : i < 80) : aS (lay z g C) (ad z 123) (J i) (J v) K = K (lay z g (up C 123 i.toNat v)) := aS_lay (N := 80) rfl h1 h2
theorem a_124 {K : Int32 → Prop} {i : Int} (h1 : 0 ≤ i) (h2 : i < 2) : zI (lay z g C) (ad z 124) (J i) K = K (J (C 124 i.toNat)) := zI_lay (N := 2) rfl h1 h2
theorem w_124 {K : Mem → Prop} {i : Int} (h1 : 0 ≤ i) (h2 : i < 2) : zS (lay z g C) (ad z 124) (J i) (J 1) K = K (lay z g (up C 124 i.toNat 1)) := zS_lay (N := 2) rfl h1 h2
end ACC
