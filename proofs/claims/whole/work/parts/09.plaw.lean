def JL_law_756 (xs : Nat → Int32) (Ln : Nat) (b : Nat) (K : Int32 → Prop) (kc18 : (Mem × Nat × Nat × Int32) → Prop) (M : Mem) (ck cn : Nat) (u1 : Nat) (u2 : Nat) (j3 : Int32) (s0 : Int32) (s1 : Int32) (s2 : Int32) (s3 : Nat) (s4 : Int32) : Prop :=
  (ck ≤ 600000 ∧ cn ≤ 7302250) ∧
  PX11_make s3 s2 s1 s0 M fun r191 M192 =>
  xbr (s4 = r191) (
    kc18 (M192, ck, cn, (j3 + (J 4)))) (
    False)
def JL_law_729 (xs : Nat → Int32) (Ln : Nat) (b : Nat) (K : Int32 → Prop) (kc18 : (Mem × Nat × Nat × Int32) → Prop) (M : Mem) (ck cn : Nat) (u1 : Nat) (u2 : Nat) (j3 : Int32) (s0 : Int32) (s1 : Int32) (s2 : Int32) (s3 : Nat) : Prop :=
  (ck ≤ 600000 ∧ cn ≤ 7302250) ∧
  PX10_make s3 s2 s1 s0 M fun r185 M186 =>
  sI xs Ln (j3 + (J 1)) fun v187 =>
  sI xs Ln (j3 + (J 2)) fun v188 =>
  sI xs Ln (j3 + (J 3)) fun v189 =>
  xbr (v189 = (J 0)) (
    JL_law_756 xs Ln b K kc18 M186 ck cn u1 u2 j3 (J 0) v188 v187 u2 r185) (
    JL_law_756 xs Ln b K kc18 M186 ck cn u1 u2 j3 (J 1) v188 v187 u2 r185)
def CL_law_18 (xs : Nat → Int32) (Ln : Nat) (b : Nat) (K : Int32 → Prop) (u1 : Nat) (u2 : Nat) (kc18 : (Mem × Nat × Nat × Int32) → Prop) (M : Mem) (ck : Nat) (cn : Nat) (x3 : Int32) : Prop :=
  xbr (((Int32.ofNat Ln) - (J 4)) < x3) (
    ck ≤ 600000 ∧ cn ≤ 7302250) (
    sI xs Ln x3 fun v10 =>
    ∃ y11 : Int32, y11 = (v10 &&& (J 31)) ∧
    xbr (y11 = (J 0)) (
      sI xs Ln (x3 + (J 1)) fun v13 =>
      sI xs Ln (x3 + (J 2)) fun v14 =>
      sI xs Ln (x3 + (J 3)) fun v15 =>
      (ck ≤ 600000 ∧ cn ≤ 7302250) ∧
      PX10_feed u1 v13 ((v14.toInt64 <<< ((J 32).toInt64 &&& 63)) ||| (v15.toInt64 &&& (LJ 4294967295))) M fun r16 M17 =>
      sI xs Ln (x3 + (J 1)) fun v18 =>
      sI xs Ln (x3 + (J 2)) fun v19 =>
      sI xs Ln (x3 + (J 3)) fun v20 =>
      (ck ≤ 600000 ∧ cn ≤ 7302250) ∧
      PX11_feed u2 v18 ((v19.toInt64 <<< ((J 32).toInt64 &&& 63)) ||| (v20.toInt64 &&& (LJ 4294967295))) M17 fun r21 M22 =>
      xbr (r16 = r21) (
        kc18 (M22, ck, cn, (x3 + (J 4)))) (
        False)) (
    xbr (y11 = (J 1)) (
      (ck + 1 ≤ 600000 ∧ cn + 8 ≤ 7302250) ∧
      PX10_books u1 M fun r25 M26 =>
      (ck + 1 ≤ 600000 ∧ cn + 8 ≤ 7302250) ∧
      PX11_books u2 M26 fun r27 M28 =>
      xbr (r25 = r27) (
        kc18 (M28, ck + 1, cn + 8, (x3 + (J 4)))) (
        False)) (
    xbr (y11 = (J 2)) (
      (ck ≤ 600000 ∧ cn ≤ 7302250) ∧
      PX10_fault u1 M fun r31 =>
      (ck ≤ 600000 ∧ cn ≤ 7302250) ∧
      PX11_fault u2 M fun r33 =>
      xbr (r31 = r33) (
        kc18 (M, ck, cn, (x3 + (J 4)))) (
        False)) (
    xbr (y11 = (J 3)) (
      sI xs Ln (x3 + (J 1)) fun v37 =>
      sI xs Ln (x3 + (J 2)) fun v38 =>
      (ck ≤ 600000 ∧ cn ≤ 7302250) ∧
      PX10_book u1 v37 v38 M fun r39 =>
      sI xs Ln (x3 + (J 1)) fun v41 =>
      sI xs Ln (x3 + (J 2)) fun v42 =>
      (ck ≤ 600000 ∧ cn ≤ 7302250) ∧
      PX11_book u2 v41 v42 M fun r43 =>
      xbr (r39 = r43) (
        kc18 (M, ck, cn, (x3 + (J 4)))) (
        False)) (
    xbr (y11 = (J 4)) (
      sI xs Ln (x3 + (J 1)) fun v47 =>
      sI xs Ln (x3 + (J 2)) fun v48 =>
      (ck ≤ 600000 ∧ cn ≤ 7302250) ∧
      PX10_mark u1 v47 v48 M fun r49 =>
      sI xs Ln (x3 + (J 1)) fun v51 =>
      sI xs Ln (x3 + (J 2)) fun v52 =>
      (ck ≤ 600000 ∧ cn ≤ 7302250) ∧
      PX11_mark u2 v51 v52 M fun r53 M54 =>
      xbr (r49 = r53) (
        kc18 (M54, ck, cn, (x3 + (J 4)))) (
        False)) (
    xbr (y11 = (J 5)) (
      sI xs Ln (x3 + (J 1)) fun v57 =>
      sI xs Ln (x3 + (J 2)) fun v58 =>
      sI xs Ln (x3 + (J 3)) fun v59 =>
      (ck ≤ 600000 ∧ cn ≤ 7302250) ∧
      PX10_ahead u1 v57 v58 v59 M fun r60 =>
      sI xs Ln (x3 + (J 1)) fun v62 =>
      sI xs Ln (x3 + (J 2)) fun v63 =>
      sI xs Ln (x3 + (J 3)) fun v64 =>
      (ck ≤ 600000 ∧ cn ≤ 7302250) ∧
      PX11_ahead u2 v62 v63 v64 M fun r65 =>
      xbr (r60 = r65) (
        kc18 (M, ck, cn, (x3 + (J 4)))) (
        False)) (
    xbr (y11 = (J 6)) (
      sI xs Ln (x3 + (J 1)) fun v69 =>
      sI xs Ln (x3 + (J 2)) fun v70 =>
      (ck ≤ 600000 ∧ cn ≤ 7302250) ∧
      PX10_order u1 v69 v70 M fun r71 M72 =>
      sI xs Ln (x3 + (J 1)) fun v73 =>
      sI xs Ln (x3 + (J 2)) fun v74 =>
      (ck ≤ 600000 ∧ cn ≤ 7302250) ∧
      PX11_order u2 v73 v74 M72 fun r75 =>
      xbr (r71 = r75) (
        kc18 (M72, ck, cn, (x3 + (J 4)))) (
        False)) (
    xbr (y11 = (J 7)) (
      sI xs Ln (x3 + (J 1)) fun v79 =>
      (ck ≤ 600000 ∧ cn ≤ 7302250) ∧
      PX10_count u1 v79 M fun r80 =>
      sI xs Ln (x3 + (J 1)) fun v82 =>
      (ck ≤ 600000 ∧ cn ≤ 7302250) ∧
      PX11_count u2 v82 M fun r83 =>
      xbr (r80 = r83) (
        kc18 (M, ck, cn, (x3 + (J 4)))) (
        False)) (
    xbr (y11 = (J 8)) (
      sI xs Ln (x3 + (J 1)) fun v87 =>
      sI xs Ln (x3 + (J 2)) fun v88 =>
      (ck ≤ 600000 ∧ cn ≤ 7302250) ∧
      PX10_width u1 v87 v88 M fun r89 M90 =>
      sI xs Ln (x3 + (J 1)) fun v91 =>
      sI xs Ln (x3 + (J 2)) fun v92 =>
      (ck ≤ 600000 ∧ cn ≤ 7302250) ∧
      PX11_width u2 v91 v92 M90 fun r93 M94 =>
      xbr (r89 = r93) (
        kc18 (M94, ck, cn, (x3 + (J 4)))) (
        False)) (
    xbr (y11 = (J 9)) (
      sI xs Ln (x3 + (J 1)) fun v97 =>
      sI xs Ln (x3 + (J 2)) fun v98 =>
      (ck ≤ 600000 ∧ cn ≤ 7302250) ∧
      PX10_shelf u1 v97 v98 M fun r99 =>
      sI xs Ln (x3 + (J 1)) fun v101 =>
      sI xs Ln (x3 + (J 2)) fun v102 =>
      (ck ≤ 600000 ∧ cn ≤ 7302250) ∧
      PX11_shelf u2 v101 v102 M fun r103 =>
      xbr (r99 = r103) (
        kc18 (M, ck, cn, (x3 + (J 4)))) (
        False)) (
    xbr (y11 = (J 10)) (
      sI xs Ln (x3 + (J 1)) fun v107 =>
      (ck ≤ 600000 ∧ cn ≤ 7302250) ∧
      PX10_room u1 v107 M fun r108 =>
      sI xs Ln (x3 + (J 1)) fun v110 =>
      (ck ≤ 600000 ∧ cn ≤ 7302250) ∧
      PX11_room u2 v110 M fun r111 =>
      xbr (r108 = r111) (
        kc18 (M, ck, cn, (x3 + (J 4)))) (
        False)) (
    xbr (y11 = (J 11)) (
      sI xs Ln (x3 + (J 1)) fun v115 =>
      sI xs Ln (x3 + (J 2)) fun v116 =>
      sI xs Ln (x3 + (J 3)) fun v117 =>
      (ck ≤ 600000 ∧ cn ≤ 7302250) ∧
      PX10_set u1 v115 v116 v117 M fun r118 M119 =>
      sI xs Ln (x3 + (J 1)) fun v120 =>
      sI xs Ln (x3 + (J 2)) fun v121 =>
      sI xs Ln (x3 + (J 3)) fun v122 =>
      (ck ≤ 600000 ∧ cn ≤ 7302250) ∧
      PX11_set u2 v120 v121 v122 M119 fun r123 M124 =>
      xbr (r118 = r123) (
        kc18 (M124, ck, cn, (x3 + (J 4)))) (
        False)) (
    xbr (y11 = (J 12)) (
      sI xs Ln (x3 + (J 1)) fun v127 =>
      sI xs Ln (x3 + (J 2)) fun v128 =>
      (ck ≤ 600000 ∧ cn ≤ 7302250) ∧
      PX10_put u1 v127 v128 M fun r129 M130 =>
      sI xs Ln (x3 + (J 1)) fun v131 =>
      sI xs Ln (x3 + (J 2)) fun v132 =>
      (ck ≤ 600000 ∧ cn ≤ 7302250) ∧
      PX11_put u2 v131 v132 M130 fun r133 M134 =>
      xbr (r129 = r133) (
        kc18 (M134, ck, cn, (x3 + (J 4)))) (
        False)) (
    xbr (y11 = (J 13)) (
      sI xs Ln (x3 + (J 1)) fun v137 =>
      (ck ≤ 600000 ∧ cn ≤ 7302250) ∧
      PX10_take u1 v137 M fun r138 M139 =>
      sI xs Ln (x3 + (J 1)) fun v140 =>
      (ck ≤ 600000 ∧ cn ≤ 7302250) ∧
      PX11_take u2 v140 M139 fun r141 M142 =>
      xbr (r138 = r141) (
        kc18 (M142, ck, cn, (x3 + (J 4)))) (
        False)) (
    xbr (y11 = (J 14)) (
      (ck ≤ 600000 ∧ cn ≤ 7302250) ∧
      PX10_wrong u1 M fun r145 M146 =>
      (ck ≤ 600000 ∧ cn ≤ 7302250) ∧
      PX11_wrong u2 M146 fun r147 M148 =>
      xbr (r145 = r147) (
        kc18 (M148, ck, cn, (x3 + (J 4)))) (
        False)) (
    xbr (y11 = (J 15)) (
      sI xs Ln (x3 + (J 1)) fun v151 =>
      (ck ≤ 600000 ∧ cn ≤ 7302250) ∧
      PX10_tidy u1 v151 M fun r152 =>
      sI xs Ln (x3 + (J 1)) fun v154 =>
      (ck ≤ 600000 ∧ cn ≤ 7302250) ∧
      PX11_tidy u2 v154 M fun r155 =>
      xbr (r152 = r155) (
        kc18 (M, ck, cn, (x3 + (J 4)))) (
        False)) (
    xbr (y11 = (J 16)) (
      (ck ≤ 600000 ∧ cn ≤ 7302250) ∧
      PX10_mend u1 M fun r159 M160 =>
      (ck ≤ 600000 ∧ cn ≤ 7302250) ∧
      PX11_mend u2 M160 fun r161 M162 =>
      xbr (r159 = r161) (
        kc18 (M162, ck, cn, (x3 + (J 4)))) (
        False)) (
    xbr (y11 = (J 17)) (
      sI xs Ln (x3 + (J 1)) fun v165 =>
      (ck ≤ 600000 ∧ cn ≤ 7302250) ∧
      PX10_guess u1 v165 M fun r166 M167 =>
      sI xs Ln (x3 + (J 1)) fun v168 =>
      (ck ≤ 600000 ∧ cn ≤ 7302250) ∧
      PX11_guess u2 v168 M167 fun r169 M170 =>
      xbr (r166 = r169) (
        kc18 (M170, ck, cn, (x3 + (J 4)))) (
        False)) (
    xbr (y11 = (J 18)) (
      sI xs Ln (x3 + (J 1)) fun v173 =>
      (ck ≤ 600000 ∧ cn ≤ 7302250) ∧
      PX10_lay u1 v173 M fun r174 M175 =>
      sI xs Ln (x3 + (J 1)) fun v176 =>
      (ck ≤ 600000 ∧ cn ≤ 7302250) ∧
      PX11_lay u2 v176 M175 fun r177 M178 =>
      xbr (r174 = r177) (
        kc18 (M178, ck, cn, (x3 + (J 4)))) (
        False)) (
    xbr (y11 = (J 19)) (
      sI xs Ln (x3 + (J 1)) fun v181 =>
      sI xs Ln (x3 + (J 2)) fun v182 =>
      sI xs Ln (x3 + (J 3)) fun v183 =>
      xbr (v183 = (J 0)) (
        JL_law_729 xs Ln b K kc18 M ck cn u1 u2 x3 (J 0) v182 v181 u1) (
        JL_law_729 xs Ln b K kc18 M ck cn u1 u2 x3 (J 1) v182 v181 u1)) (
    xbr (y11 = (J 20)) (
      sI xs Ln (x3 + (J 1)) fun v195 =>
      sI xs Ln (x3 + (J 2)) fun v196 =>
      (ck ≤ 600000 ∧ cn ≤ 7302250) ∧
      PX10_guide u1 v195 v196 M fun r197 =>
      sI xs Ln (x3 + (J 1)) fun v199 =>
      sI xs Ln (x3 + (J 2)) fun v200 =>
      (ck ≤ 600000 ∧ cn ≤ 7302250) ∧
      PX11_guide u2 v199 v200 M fun r201 M202 =>
      xbr (r197 = r201) (
        kc18 (M202, ck, cn, (x3 + (J 4)))) (
        False)) (
    xbr (y11 = (J 21)) (
      sI xs Ln (x3 + (J 1)) fun v205 =>
      (ck ≤ 600000 ∧ cn ≤ 7302250) ∧
      PX10_list u1 v205 M fun r206 M207 =>
      sI xs Ln (x3 + (J 1)) fun v208 =>
      (ck ≤ 600000 ∧ cn ≤ 7302250) ∧
      PX11_list u2 v208 M207 fun r209 M210 =>
      xbr (r206 = r209) (
        kc18 (M210, ck, cn, (x3 + (J 4)))) (
        False)) (
    xbr (y11 = (J 22)) (
      sI xs Ln (x3 + (J 1)) fun v213 =>
      (ck ≤ 600000 ∧ cn ≤ 7302250) ∧
      PX10_stock u1 v213 M fun r214 =>
      sI xs Ln (x3 + (J 1)) fun v216 =>
      (ck ≤ 600000 ∧ cn ≤ 7302250) ∧
      PX11_stock u2 v216 M fun r217 =>
      xbr (r214 = r217) (
        kc18 (M, ck, cn, (x3 + (J 4)))) (
        False)) (
    xbr (y11 = (J 23)) (
      sI xs Ln (x3 + (J 1)) fun v221 =>
      sI xs Ln (x3 + (J 2)) fun v222 =>
      (ck ≤ 600000 ∧ cn ≤ 7302250) ∧
      PX10_habit u1 v221 v222 M fun r223 M224 =>
      sI xs Ln (x3 + (J 1)) fun v225 =>
      sI xs Ln (x3 + (J 2)) fun v226 =>
      (ck ≤ 600000 ∧ cn ≤ 7302250) ∧
      PX11_habit u2 v225 v226 M224 fun r227 M228 =>
      xbr (r223 = r227) (
        kc18 (M228, ck, cn, (x3 + (J 4)))) (
        False)) (
    xbr (y11 = (J 24)) (
      sI xs Ln (x3 + (J 1)) fun v231 =>
      sI xs Ln (x3 + (J 2)) fun v232 =>
      (ck ≤ 600000 ∧ cn ≤ 7302250) ∧
      PX10_likely u1 v231 v232 M fun r233 =>
      sI xs Ln (x3 + (J 1)) fun v235 =>
      sI xs Ln (x3 + (J 2)) fun v236 =>
      (ck ≤ 600000 ∧ cn ≤ 7302250) ∧
      PX11_likely u2 v235 v236 M fun r237 =>
      xbr (r233 = r237) (
        kc18 (M, ck, cn, (x3 + (J 4)))) (
        False)) (
    xbr (y11 = (J 25)) (
      sI xs Ln (x3 + (J 1)) fun v241 =>
      sI xs Ln (x3 + (J 2)) fun v242 =>
      (ck ≤ 600000 ∧ cn ≤ 7302250) ∧
      PX10_search u1 v241 v242 M fun r243 M244 =>
      sI xs Ln (x3 + (J 1)) fun v245 =>
      sI xs Ln (x3 + (J 2)) fun v246 =>
      (ck ≤ 600000 ∧ cn ≤ 7302250) ∧
      PX11_search u2 v245 v246 M244 fun r247 M248 =>
      xbr (r243 = r247) (
        kc18 (M248, ck, cn, (x3 + (J 4)))) (
        False)) (
    xbr (y11 = (J 26)) (
      sI xs Ln (x3 + (J 1)) fun v251 =>
      (ck ≤ 600000 ∧ cn ≤ 7302250) ∧
      PX10_seed u1 v251 M fun r252 M253 =>
      sI xs Ln (x3 + (J 1)) fun v254 =>
      (ck ≤ 600000 ∧ cn ≤ 7302250) ∧
      PX11_seed u2 v254 M253 fun r255 M256 =>
      xbr (r252 = r255) (
        kc18 (M256, ck, cn, (x3 + (J 4)))) (
        False)) (
    xbr (y11 = (J 27)) (
      sI xs Ln (x3 + (J 1)) fun v259 =>
      (ck ≤ 600000 ∧ cn ≤ 7302250) ∧
      PX10_shelve u1 v259 M fun r260 M261 =>
      sI xs Ln (x3 + (J 1)) fun v262 =>
      (ck ≤ 600000 ∧ cn ≤ 7302250) ∧
      PX11_shelve u2 v262 M261 fun r263 M264 =>
      xbr (r260 = r263) (
        kc18 (M264, ck, cn, (x3 + (J 4)))) (
        False)) (
    xbr (y11 = (J 28)) (
      sI xs Ln (x3 + (J 1)) fun v267 =>
      (ck ≤ 600000 ∧ cn ≤ 7302250) ∧
      PX10_keep u1 v267 M fun r268 M269 =>
      sI xs Ln (x3 + (J 1)) fun v270 =>
      (ck ≤ 600000 ∧ cn ≤ 7302250) ∧
      PX11_keep u2 v270 M269 fun r271 M272 =>
      xbr (r268 = r271) (
        kc18 (M272, ck, cn, (x3 + (J 4)))) (
        False)) (
    xbr (y11 = (J 29)) (
      sI xs Ln (x3 + (J 1)) fun v275 =>
      (ck ≤ 600000 ∧ cn ≤ 7302250) ∧
      PX10_goBack u1 v275 M fun r276 M277 =>
      sI xs Ln (x3 + (J 1)) fun v278 =>
      (ck ≤ 600000 ∧ cn ≤ 7302250) ∧
      PX11_goBack u2 v278 M277 fun r279 M280 =>
      xbr (r276 = r279) (
        kc18 (M280, ck, cn, (x3 + (J 4)))) (
        False)) (
    kc18 (M, ck, cn, (x3 + (J 4))))))))))))))))))))))))))))))))))
def BL_law_18 (xs : Nat → Int32) (Ln : Nat) (b : Nat) (K : Int32 → Prop) (u1 : Nat) (u2 : Nat) (kc18 : (Mem × Nat × Nat × Int32) → Prop) (s : (Mem × Nat × Nat × Int32)) : Prop := CL_law_18 xs Ln b K u1 u2 kc18 s.1 s.2.1 s.2.2.1 s.2.2.2
def PL_law (xs : Nat → Int32) (Ln : Nat) (b : Nat)  (M : Mem) (K : Int32 → Prop) : Prop :=
  nO M 11 13 tyX10 fun q1 M2 =>
  PX10_init q1 M2 fun M4 =>
  nO M4 12 32 tyX11 fun q5 M6 =>
  PX11_init q5 M6 fun M8 =>
  lp (BL_law_18 xs Ln b K q1 q5) (M8, 0 + 1 + 127 + 1 + 20, 0 + 13 + 29784 + 32 + 13000, (J 0))
