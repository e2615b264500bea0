/-! THE MACHINE over that memory -/
def gtbl : List Cond := lw_tbl.filter goodWord
def isNest : Cond → Bool
  | .fieldLinkNest .. => true
  | .methodLinkNest .. => true
  | _ => false
def ntbl : List Cond := tables_1.filter isNest
theorem gw {w : Cond} (i : Nat) (h : tables_1[i]? = some w) (hg : goodWord w = true) : w ∈ gtbl := List.mem_filter.mpr ⟨List.mem_append_right _ (List.mem_of_getElem? h), hg⟩
theorem gsel {q : MethodName × Nat} (i : Nat) (h : lw_privs[i]? = some q) : Cond.selects q.1.cls q.1 q.1 ∈ gtbl := List.mem_filter.mpr ⟨List.mem_append_left _ (List.mem_map.mpr ⟨q, List.mem_of_getElem? h, rfl⟩), rfl⟩
theorem nw {w : Cond} (i : Nat) (h : tables_1[i]? = some w) (hg : isNest w = true) : w ∈ ntbl := List.mem_filter.mpr ⟨List.mem_of_getElem? h, hg⟩
theorem gtbl_good {w : Cond} (h : w ∈ gtbl) : (w.onTables && w.keeps) = true ∨ ∃ ty, w = .arrayClass ty := good_of_word (List.mem_filter.mp h).2
theorem gin {w : Cond} (h : w ∈ gtbl) : GoodIn gtbl (w :: gtbl) := fun x hx => by
  rcases List.mem_cons.mp hx with rfl | hx
  · exact ⟨h, gtbl_good h⟩
  · exact ⟨hx, gtbl_good hx⟩
theorem gin_app {ws : List Cond} {w : Cond} (hws : ∀ x ∈ ws, x ∈ gtbl) (h : w ∈ gtbl) : GoodIn gtbl (ws ++ (w :: gtbl)) := fun x hx => by
  rcases List.mem_append.mp hx with hx | hx
  · exact ⟨hws x hx, gtbl_good (hws x hx)⟩
  · exact gin h x hx
def xK (D : va_G) (cA : Nat → ClassId) (U : State) : Prop := va_K D vwCl [(cA 0, .int), (cA 1, .boolean), (cA 2, .object RX0)] U
def xN (U : State) : Prop := (∀ w ∈ ntbl, va_Nw w U) ∧ va_AO RX0 U
def xat (D : va_G) (cA : Nat → ClassId) (a : Nat) (t : Nat × Nat) (V : Nat → Value) (H : Heap) : Prop :=
  if t.1 < 100 then ∃ r : vw_C, vwCl[t.1 - 1]? = some r ∧ t_OB a (D.1 (t.1 - 1)) r.2.2 (D.2 (t.1 - 1)) H V
  else H[a]? = some (arrV (cA (t.1 - 100)) t.2 V)
def Wd (z : Nat) (D : va_G) (cA : Nat → ClassId) (M : Mem) (H : Heap) : Prop := z ≤ M.2.2 ∧ H.size = M.2.2 ∧ ∀ a, (M.1 a).1 ≠ 0 → z ≤ a ∧ xat D cA a (M.1 a) (M.2.1 a) H
def xB (z : Nat) (D : va_G) (cA : Nat → ClassId) (M : Mem) : State → Prop := fun U => Wd z D cA M U.heap ∧ xK D cA U ∧ xN U
def xA (z : Nat) : Nat → Prop := fun q => z ≤ q
def xWd (z : Nat) (D : va_G) (cA : Nat → ClassId) : Mem → State → Prop := fun M t => Wd z D cA M t.heap
def xE (own : String) (cc : ByteArray) (nL : Nat) (D : va_G) (cA : Nat → ClassId) (p : Program) (s : State) (m : MethodId) (args : Array Value) (c : Code) : Prop :=
  p.tables.exec = Jvm.exec ∧ c.code = cc ∧ c.maxLocals = nL ∧ s.vm.findClass own = some m.cls ∧ (∀ w ∈ gtbl, w.before args s = true) ∧ xK D cA s ∧ xN s
theorem xat.kept {D : va_G} {cA : Nat → ClassId} {a : Nat} {t : Nat × Nat} {V : Nat → Value} {H H1 : Heap} (h : xat D cA a t V H) (hq : H1[a]? = H[a]?) : xat D cA a t V H1 := by
  unfold xat at h ⊢
  split
  · rename_i hc
    rw [if_pos hc] at h
    obtain ⟨r, h1, h2⟩ := h
    exact ⟨r, h1, h2.kept hq⟩
  · rename_i hc
    rw [if_neg hc] at h
    rw [hq]; exact h
theorem Wd.lt {z : Nat} {D : va_G} {cA : Nat → ClassId} {M : Mem} {H : Heap} (h : Wd z D cA M H) {a : Nat} (ha : (M.1 a).1 ≠ 0) : a < H.size := by
  have h1 := (h.2.2 a ha).2
  unfold xat at h1
  split at h1
  · obtain ⟨r, -, cell, q1, -⟩ := h1
    exact (Array.getElem?_eq_some_iff.mp q1).1
  · exact (Array.getElem?_eq_some_iff.mp h1).1
theorem Wd.obj {z : Nat} {D : va_G} {cA : Nat → ClassId} {M : Mem} {H : Heap} (h : Wd z D cA M H) {a t : Nat} (ha : (M.1 a).1 = t) (h0 : 0 < t) (h1 : t < 100) {r : vw_C} (hr : vwCl[t - 1]? = some r) : t_OB a (D.1 (t - 1)) r.2.2 (D.2 (t - 1)) H (M.2.1 a) := by
  subst ha
  have h2 := (h.2.2 a (by omega)).2
  unfold xat at h2
  rw [if_pos h1] at h2
  obtain ⟨r', e, h3⟩ := h2
  cases hr.symm.trans e
  exact h3
theorem Wd.arr {z : Nat} {D : va_G} {cA : Nat → ClassId} {M : Mem} {H : Heap} (h : Wd z D cA M H) {a q : Nat} (ha : (M.1 a).1 = 100 + q) : H[a]? = some (arrV (cA q) (M.1 a).2 (M.2.1 a)) := by
  have h2 := (h.2.2 a (by omega)).2
  unfold xat at h2
  rw [if_neg (by omega), ha, show 100 + q - 100 = q by omega] at h2
  exact h2
theorem Wd.ge {z : Nat} {D : va_G} {cA : Nat → ClassId} {M : Mem} {H : Heap} (h : Wd z D cA M H) {a : Nat} (ha : (M.1 a).1 ≠ 0) : z ≤ a := (h.2.2 a ha).1
/-- a place is written -/
theorem Wd.set {z : Nat} {D : va_G} {cA : Nat → ClassId} {M : Mem} {H H1 : Heap} (h : Wd z D cA M H) {a k : Nat} {v : Value} (hz : H1.size = H.size) (ho : ∀ q : Nat, q ≠ a → H1[q]? = H[q]?)
    (hx : xat D cA a (M.1 a) ((xset M a k v).2.1 a) H1) : Wd z D cA (xset M a k v) H1 := by
  refine ⟨h.1, hz.trans h.2.1, fun b hb => ?_⟩
  refine ⟨(h.2.2 b hb).1, ?_⟩
  by_cases e : b = a
  · subst e; exact hx
  · have h1 := (h.2.2 b hb).2.kept (ho b e)
    have e2 : (xset M a k v).2.1 b = M.2.1 b := by
      funext j
      simp [xset, e]
    rw [e2]
    exact h1
theorem xset_upd (M : Mem) (a k : Nat) (v : Value) : (xset M a k v).2.1 a = updV (M.2.1 a) k v := by
  funext j
  simp [xset, updV]
/-- a cell is made -/
theorem Wd.new {z : Nat} {D : va_G} {cA : Nat → ClassId} {M : Mem} {H H1 : Heap} (h : Wd z D cA M H) {t n : Nat} {dv : Nat → Value} (hz : H1.size = H.size + 1) (ho : ∀ q : Nat, q < H.size → H1[q]? = H[q]?)
    (hx : xat D cA H.size (t, n) dv H1) : Wd z D cA (xnew M t n dv) H1 := by
  refine ⟨?_, ?_, fun b hb => ?_⟩
  · show z ≤ M.2.2 + 1
    have := h.1
    omega
  · show H1.size = M.2.2 + 1
    rw [hz, h.2.1]
  · by_cases e : b = M.2.2
    · subst e
      refine ⟨h.1, ?_⟩
      have e1 : (xnew M t n dv).1 M.2.2 = (t, n) := by simp [xnew]
      have e2 : (xnew M t n dv).2.1 M.2.2 = dv := by funext j; simp [xnew]
      rw [e1, e2]
      rw [h.2.1] at hx
      exact hx
    · have e1 : (xnew M t n dv).1 b = M.1 b := by simp [xnew, e]
      have e2 : (xnew M t n dv).2.1 b = M.2.1 b := by funext j; simp [xnew, e]
      rw [e1] at hb ⊢
      rw [e2]
      exact ⟨(h.2.2 b hb).1, (h.2.2 b hb).2.kept (ho b (h.lt hb))⟩
theorem xN.warm {s U : State} (hW : s.WarmedH U.vm) (h : xN s) : xN U := by
  refine ⟨fun w hw => ?_, h.2.moved hW.alike⟩
  have h1 := h.1 w hw
  have h2 := (List.mem_filter.mp hw).2
  cases w <;> first | exact va_Nw.warmF hW h1 | exact va_Nw.warmM hW h1 | (simp [isNest] at h2)
theorem xN.same {u U : State} (e : u.vm = U.vm) (h : xN u) : xN U := by
  refine ⟨fun w hw => ?_, h.2.moved (by rw [e]; exact Vm.Alike.refl U.vm)⟩
  have h1 := h.1 w hw
  have h2 := (List.mem_filter.mp hw).2
  cases w <;> first | exact va_Nw.same rfl e h1 | (simp [isNest] at h2)
theorem xB.blind {z : Nat} {D : va_G} {cA : Nat → ClassId} {M : Mem} {av : List Value} : FrameBlind (va_Pc av (xB z D cA M)) := fun a U g mk q => by
  obtain ⟨q0, qW, qK, qN⟩ := q
  exact ⟨q0, qW, va_K.moved (u := U) (U := U.calling g mk a) (Vm.Alike.refl U.vm) qK, xN.same (u := U) rfl qN⟩
section XG
variable {p : Program} {l : Launch} {e : Env} {R : Room} {s : State} {m : MethodId} {args : Array Value} {below : List Frame} {meth : Method} {c : Code} {Q : State → Prop}
variable {cc : ByteArray} {own : String} {nL : Nat} {z : Nat} {D : va_G} {cA : Nat → ClassId} {M : Mem} {k n pc : Nat} {L L' : List (Nat × Value)} {st : List Value}
/-- the machine stands at pc, over the memory M, with locals L, stack st, k cells and n slots made so far, and comes to Q -/
def xG (p : Program) (l : Launch) (e : Env) (R : Room) (s : State) (m : MethodId) (args : Array Value) (below : List Frame) (meth : Method) (c : Code) (Q : State → Prop) (nL z : Nat) (D : va_G) (cA : Nat → ClassId) (M : Mem) (k n pc : Nat) (L : List (Nat × Value)) (st : List Value) : Prop :=
  ∀ (H : Heap) (locs : List Loc) (ls : Array Slot), Wd z D cA M H → va_S (xA z) s.heap H locs → lv_has ls nL L → W p l e R s m args below meth c H locs k n Q (F0 m pc ls st)
theorem x_sub (ks : List Nat) (hl : lv_pick L ks = L') (kk : xG p l e R s m args below meth c Q nL z D cA M k n pc L' st) : xG p l e R s m args below meth c Q nL z D cA M k n pc L st :=
  fun H locs ls hw hs hl' => kk H locs ls hw hs (lv_sub hl' ks hl)
theorem x_top {v w : Value} (h : v = w) (kk : xG p l e R s m args below meth c Q nL z D cA M k n pc L (v :: st)) : xG p l e R s m args below meth c Q nL z D cA M k n pc L (w :: st) := h ▸ kk
theorem x_widen {k' n' : Nat} (h1 : k ≤ k') (h2 : n ≤ n') (kk : xG p l e R s m args below meth c Q nL z D cA M k' n' pc L st) : xG p l e R s m args below meth c Q nL z D cA M k n pc L st :=
  fun H locs ls hw hs hl => W.widen h1 h2 (kk H locs ls hw hs hl)
theorem x_iload_n (E : xE own cc nL D cA p s m args c) {q : Fin 4} {i : Nat} {x : Int32} (hdg : decode cc pc = .ok (.iload_n q, 1)) (hi : (q : Nat) = i) (j : Nat) (hj : L[j]? = some (i, .int x)) (kk : xG p l e R s m args below meth c Q nL z D cA M k n (pc + 1) L (.int x :: st)) : xG p l e R s m args below meth c Q nL z D cA M k n pc L (st) := fun H locs ls hw hs hl => lv_iload_n E.1 E.2.1 hdg hi (lv_at hl j hj) (kk H locs ls hw hs hl)
theorem x_iload (E : xE own cc nL D cA p s m args c) {i : Nat} {x : Int32} (hdg : decode cc pc = .ok (.iload i, 2)) (j : Nat) (hj : L[j]? = some (i, .int x)) (kk : xG p l e R s m args below meth c Q nL z D cA M k n (pc + 2) L (.int x :: st)) : xG p l e R s m args below meth c Q nL z D cA M k n pc L (st) := fun H locs ls hw hs hl => lv_iload E.1 E.2.1 hdg (lv_at hl j hj) (kk H locs ls hw hs hl)
theorem x_aload_n (E : xE own cc nL D cA p s m args c) {q : Fin 4} {i : Nat} {x : Nat} (hdg : decode cc pc = .ok (.aload_n q, 1)) (hi : (q : Nat) = i) (j : Nat) (hj : L[j]? = some (i, .ref x)) (kk : xG p l e R s m args below meth c Q nL z D cA M k n (pc + 1) L (.ref x :: st)) : xG p l e R s m args below meth c Q nL z D cA M k n pc L (st) := fun H locs ls hw hs hl => lv_aload_n E.1 E.2.1 hdg hi (lv_at hl j hj) (kk H locs ls hw hs hl)
theorem x_aload (E : xE own cc nL D cA p s m args c) {i : Nat} {x : Nat} (hdg : decode cc pc = .ok (.aload i, 2)) (j : Nat) (hj : L[j]? = some (i, .ref x)) (kk : xG p l e R s m args below meth c Q nL z D cA M k n (pc + 2) L (.ref x :: st)) : xG p l e R s m args below meth c Q nL z D cA M k n pc L (st) := fun H locs ls hw hs hl => lv_aload E.1 E.2.1 hdg (lv_at hl j hj) (kk H locs ls hw hs hl)
theorem x_lload_n (E : xE own cc nL D cA p s m args c) {q : Fin 4} {i : Nat} {x : Int64} (hdg : decode cc pc = .ok (.lload_n q, 1)) (hi : (q : Nat) = i) (j : Nat) (hj : L[j]? = some (i, .long x)) (kk : xG p l e R s m args below meth c Q nL z D cA M k n (pc + 1) L (.long x :: st)) : xG p l e R s m args below meth c Q nL z D cA M k n pc L (st) := fun H locs ls hw hs hl => lv_lload_n E.1 E.2.1 hdg hi (lv_at hl j hj) (kk H locs ls hw hs hl)
theorem x_lload (E : xE own cc nL D cA p s m args c) {i : Nat} {x : Int64} (hdg : decode cc pc = .ok (.lload i, 2)) (j : Nat) (hj : L[j]? = some (i, .long x)) (kk : xG p l e R s m args below meth c Q nL z D cA M k n (pc + 2) L (.long x :: st)) : xG p l e R s m args below meth c Q nL z D cA M k n pc L (st) := fun H locs ls hw hs hl => lv_lload E.1 E.2.1 hdg (lv_at hl j hj) (kk H locs ls hw hs hl)
theorem x_istore_n (E : xE own cc nL D cA p s m args c) {q : Fin 4} {i : Nat} {x : Int32} (hdg : decode cc pc = .ok (.istore_n q, 1)) (hi : (q : Nat) = i) (hn : i < nL) (hL : (i, Value.int x) :: L.filter (fun q => !(q.1 == i) && !(q.1 + 1 == i && q.2.category == 2)) = L') (kk : xG p l e R s m args below meth c Q nL z D cA M k n (pc + 1) L' (st)) : xG p l e R s m args below meth c Q nL z D cA M k n pc L (.int x :: st) := fun H locs ls hw hs hl => lv_istore_n E.1 E.2.1 hdg hi hl hn hL (fun ls' hl' => kk H locs ls' hw hs hl')
theorem x_istore (E : xE own cc nL D cA p s m args c) {i : Nat} {x : Int32} (hdg : decode cc pc = .ok (.istore i, 2)) (hn : i < nL) (hL : (i, Value.int x) :: L.filter (fun q => !(q.1 == i) && !(q.1 + 1 == i && q.2.category == 2)) = L') (kk : xG p l e R s m args below meth c Q nL z D cA M k n (pc + 2) L' (st)) : xG p l e R s m args below meth c Q nL z D cA M k n pc L (.int x :: st) := fun H locs ls hw hs hl => lv_istore E.1 E.2.1 hdg hl hn hL (fun ls' hl' => kk H locs ls' hw hs hl')
theorem x_astore_n (E : xE own cc nL D cA p s m args c) {q : Fin 4} {i : Nat} {x : Nat} (hdg : decode cc pc = .ok (.astore_n q, 1)) (hi : (q : Nat) = i) (hn : i < nL) (hL : (i, Value.ref x) :: L.filter (fun q => !(q.1 == i) && !(q.1 + 1 == i && q.2.category == 2)) = L') (kk : xG p l e R s m args below meth c Q nL z D cA M k n (pc + 1) L' (st)) : xG p l e R s m args below meth c Q nL z D cA M k n pc L (.ref x :: st) := fun H locs ls hw hs hl => lv_astore_n E.1 E.2.1 hdg hi hl hn hL (fun ls' hl' => kk H locs ls' hw hs hl')
theorem x_astore (E : xE own cc nL D cA p s m args c) {i : Nat} {x : Nat} (hdg : decode cc pc = .ok (.astore i, 2)) (hn : i < nL) (hL : (i, Value.ref x) :: L.filter (fun q => !(q.1 == i) && !(q.1 + 1 == i && q.2.category == 2)) = L') (kk : xG p l e R s m args below meth c Q nL z D cA M k n (pc + 2) L' (st)) : xG p l e R s m args below meth c Q nL z D cA M k n pc L (.ref x :: st) := fun H locs ls hw hs hl => lv_astore E.1 E.2.1 hdg hl hn hL (fun ls' hl' => kk H locs ls' hw hs hl')
theorem x_lstore_n (E : xE own cc nL D cA p s m args c) {q : Fin 4} {i : Nat} {x : Int64} (hdg : decode cc pc = .ok (.lstore_n q, 1)) (hi : (q : Nat) = i) (hn : i + 1 < nL) (hL : (i, Value.long x) :: L.filter (fun q => !(q.1 == i) && (!(q.1 == i + 1) && !(q.1 + 1 == i && q.2.category == 2))) = L') (kk : xG p l e R s m args below meth c Q nL z D cA M k n (pc + 1) L' (st)) : xG p l e R s m args below meth c Q nL z D cA M k n pc L (.long x :: st) := fun H locs ls hw hs hl => lv_lstore_n E.1 E.2.1 hdg hi hl hn hL (fun ls' hl' => kk H locs ls' hw hs hl')
theorem x_iinc (E : xE own cc nL D cA p s m args c) {i : Nat} {d : Int} {x v : Int32} (hdg : decode cc pc = .ok (.iinc i d, 3)) (j : Nat) (hj : L[j]? = some (i, .int x)) (hv : x + Int32.ofInt d = v) (hn : i < nL) (hL : (i, Value.int v) :: L.filter (fun q => !(q.1 == i) && !(q.1 + 1 == i && q.2.category == 2)) = L') (kk : xG p l e R s m args below meth c Q nL z D cA M k n (pc + 3) L' (st)) : xG p l e R s m args below meth c Q nL z D cA M k n pc L (st) := fun H locs ls hw hs hl => lv_iinc E.1 E.2.1 hdg hl hj hv hn hL (fun ls' hl' => kk H locs ls' hw hs hl')
theorem x_iconst (E : xE own cc nL D cA p s m args c) {d : Int} {v : Int32} (hdg : decode cc pc = .ok (.iconst d, 1)) (hv : Int32.ofInt d = v) (kk : xG p l e R s m args below meth c Q nL z D cA M k n (pc + 1) L (.int v :: st)) : xG p l e R s m args below meth c Q nL z D cA M k n pc L (st) := fun H locs ls hw hs hl => lv_iconst E.1 E.2.1 hdg hv (kk H locs ls hw hs hl)
theorem x_bipush (E : xE own cc nL D cA p s m args c) {d : Int} {v : Int32} (hdg : decode cc pc = .ok (.bipush d, 2)) (hv : (Int8.ofInt d).toInt32 = v) (kk : xG p l e R s m args below meth c Q nL z D cA M k n (pc + 2) L (.int v :: st)) : xG p l e R s m args below meth c Q nL z D cA M k n pc L (st) := fun H locs ls hw hs hl => lv_bipush E.1 E.2.1 hdg hv (kk H locs ls hw hs hl)
theorem x_sipush (E : xE own cc nL D cA p s m args c) {d : Int} {v : Int32} (hdg : decode cc pc = .ok (.sipush d, 3)) (hv : (Int16.ofInt d).toInt32 = v) (kk : xG p l e R s m args below meth c Q nL z D cA M k n (pc + 3) L (.int v :: st)) : xG p l e R s m args below meth c Q nL z D cA M k n pc L (st) := fun H locs ls hw hs hl => lv_sipush E.1 E.2.1 hdg hv (kk H locs ls hw hs hl)
theorem x_lconst (E : xE own cc nL D cA p s m args c) {d : Fin 2} {v : Int64} (hdg : decode cc pc = .ok (.lconst d, 1)) (hv : Int64.ofNat (d : Nat) = v) (kk : xG p l e R s m args below meth c Q nL z D cA M k n (pc + 1) L (.long v :: st)) : xG p l e R s m args below meth c Q nL z D cA M k n pc L (st) := fun H locs ls hw hs hl => lv_lconst E.1 E.2.1 hdg hv (kk H locs ls hw hs hl)
theorem x_iadd (E : xE own cc nL D cA p s m args c) {x y : Int32} (hdg : decode cc pc = .ok (.iadd, 1)) (kk : xG p l e R s m args below meth c Q nL z D cA M k n (pc + 1) L (.int (x + y) :: st)) : xG p l e R s m args below meth c Q nL z D cA M k n pc L (.int y :: .int x :: st) := fun H locs ls hw hs hl => lv_iadd E.1 E.2.1 hdg (kk H locs ls hw hs hl)
theorem x_isub (E : xE own cc nL D cA p s m args c) {x y : Int32} (hdg : decode cc pc = .ok (.isub, 1)) (kk : xG p l e R s m args below meth c Q nL z D cA M k n (pc + 1) L (.int (x - y) :: st)) : xG p l e R s m args below meth c Q nL z D cA M k n pc L (.int y :: .int x :: st) := fun H locs ls hw hs hl => lv_isub E.1 E.2.1 hdg (kk H locs ls hw hs hl)
theorem x_imul (E : xE own cc nL D cA p s m args c) {x y : Int32} (hdg : decode cc pc = .ok (.imul, 1)) (kk : xG p l e R s m args below meth c Q nL z D cA M k n (pc + 1) L (.int (x * y) :: st)) : xG p l e R s m args below meth c Q nL z D cA M k n pc L (.int y :: .int x :: st) := fun H locs ls hw hs hl => lv_imul E.1 E.2.1 hdg (kk H locs ls hw hs hl)
theorem x_ishl (E : xE own cc nL D cA p s m args c) {x y : Int32} (hdg : decode cc pc = .ok (.ishl, 1)) (kk : xG p l e R s m args below meth c Q nL z D cA M k n (pc + 1) L (.int (x <<< (y &&& 31)) :: st)) : xG p l e R s m args below meth c Q nL z D cA M k n pc L (.int y :: .int x :: st) := fun H locs ls hw hs hl => lv_ishl E.1 E.2.1 hdg (kk H locs ls hw hs hl)
theorem x_ishr (E : xE own cc nL D cA p s m args c) {x y : Int32} (hdg : decode cc pc = .ok (.ishr, 1)) (kk : xG p l e R s m args below meth c Q nL z D cA M k n (pc + 1) L (.int (x >>> (y &&& 31)) :: st)) : xG p l e R s m args below meth c Q nL z D cA M k n pc L (.int y :: .int x :: st) := fun H locs ls hw hs hl => lv_ishr E.1 E.2.1 hdg (kk H locs ls hw hs hl)
theorem x_iand (E : xE own cc nL D cA p s m args c) {x y : Int32} (hdg : decode cc pc = .ok (.iand, 1)) (kk : xG p l e R s m args below meth c Q nL z D cA M k n (pc + 1) L (.int (x &&& y) :: st)) : xG p l e R s m args below meth c Q nL z D cA M k n pc L (.int y :: .int x :: st) := fun H locs ls hw hs hl => lv_iand E.1 E.2.1 hdg (kk H locs ls hw hs hl)
theorem x_ior (E : xE own cc nL D cA p s m args c) {x y : Int32} (hdg : decode cc pc = .ok (.ior, 1)) (kk : xG p l e R s m args below meth c Q nL z D cA M k n (pc + 1) L (.int (x ||| y) :: st)) : xG p l e R s m args below meth c Q nL z D cA M k n pc L (.int y :: .int x :: st) := fun H locs ls hw hs hl => lv_ior E.1 E.2.1 hdg (kk H locs ls hw hs hl)
theorem x_ixor (E : xE own cc nL D cA p s m args c) {x y : Int32} (hdg : decode cc pc = .ok (.ixor, 1)) (kk : xG p l e R s m args below meth c Q nL z D cA M k n (pc + 1) L (.int (x ^^^ y) :: st)) : xG p l e R s m args below meth c Q nL z D cA M k n pc L (.int y :: .int x :: st) := fun H locs ls hw hs hl => lv_ixor E.1 E.2.1 hdg (kk H locs ls hw hs hl)
theorem x_idiv (E : xE own cc nL D cA p s m args c) {x y : Int32} (hdg : decode cc pc = .ok (.idiv, 1)) (h0 : ¬ y = 0) (kk : xG p l e R s m args below meth c Q nL z D cA M k n (pc + 1) L (.int (x / y) :: st)) : xG p l e R s m args below meth c Q nL z D cA M k n pc L (.int y :: .int x :: st) := fun H locs ls hw hs hl => lv_idiv E.1 E.2.1 hdg h0 (kk H locs ls hw hs hl)
theorem x_irem (E : xE own cc nL D cA p s m args c) {x y : Int32} (hdg : decode cc pc = .ok (.irem, 1)) (h0 : ¬ y = 0) (kk : xG p l e R s m args below meth c Q nL z D cA M k n (pc + 1) L (.int (x - x / y * y) :: st)) : xG p l e R s m args below meth c Q nL z D cA M k n pc L (.int y :: .int x :: st) := fun H locs ls hw hs hl => lv_irem E.1 E.2.1 hdg h0 (kk H locs ls hw hs hl)
theorem x_ladd (E : xE own cc nL D cA p s m args c) {x y : Int64} (hdg : decode cc pc = .ok (.ladd, 1)) (kk : xG p l e R s m args below meth c Q nL z D cA M k n (pc + 1) L (.long (x + y) :: st)) : xG p l e R s m args below meth c Q nL z D cA M k n pc L (.long y :: .long x :: st) := fun H locs ls hw hs hl => lv_ladd E.1 E.2.1 hdg (kk H locs ls hw hs hl)
theorem x_lmul (E : xE own cc nL D cA p s m args c) {x y : Int64} (hdg : decode cc pc = .ok (.lmul, 1)) (kk : xG p l e R s m args below meth c Q nL z D cA M k n (pc + 1) L (.long (x * y) :: st)) : xG p l e R s m args below meth c Q nL z D cA M k n pc L (.long y :: .long x :: st) := fun H locs ls hw hs hl => lv_lmul E.1 E.2.1 hdg (kk H locs ls hw hs hl)
theorem x_land (E : xE own cc nL D cA p s m args c) {x y : Int64} (hdg : decode cc pc = .ok (.land, 1)) (kk : xG p l e R s m args below meth c Q nL z D cA M k n (pc + 1) L (.long (x &&& y) :: st)) : xG p l e R s m args below meth c Q nL z D cA M k n pc L (.long y :: .long x :: st) := fun H locs ls hw hs hl => lv_land E.1 E.2.1 hdg (kk H locs ls hw hs hl)
theorem x_lor (E : xE own cc nL D cA p s m args c) {x y : Int64} (hdg : decode cc pc = .ok (.lor, 1)) (kk : xG p l e R s m args below meth c Q nL z D cA M k n (pc + 1) L (.long (x ||| y) :: st)) : xG p l e R s m args below meth c Q nL z D cA M k n pc L (.long y :: .long x :: st) := fun H locs ls hw hs hl => lv_lor E.1 E.2.1 hdg (kk H locs ls hw hs hl)
theorem x_ldiv (E : xE own cc nL D cA p s m args c) {x y : Int64} (hdg : decode cc pc = .ok (.ldiv, 1)) (h0 : ¬ y = 0) (kk : xG p l e R s m args below meth c Q nL z D cA M k n (pc + 1) L (.long (x / y) :: st)) : xG p l e R s m args below meth c Q nL z D cA M k n pc L (.long y :: .long x :: st) := fun H locs ls hw hs hl => lv_ldiv E.1 E.2.1 hdg h0 (kk H locs ls hw hs hl)
theorem x_lrem (E : xE own cc nL D cA p s m args c) {x y : Int64} (hdg : decode cc pc = .ok (.lrem, 1)) (h0 : ¬ y = 0) (kk : xG p l e R s m args below meth c Q nL z D cA M k n (pc + 1) L (.long (x - x / y * y) :: st)) : xG p l e R s m args below meth c Q nL z D cA M k n pc L (.long y :: .long x :: st) := fun H locs ls hw hs hl => lv_lrem E.1 E.2.1 hdg h0 (kk H locs ls hw hs hl)
theorem x_ineg (E : xE own cc nL D cA p s m args c) {x : Int32} (hdg : decode cc pc = .ok (.ineg, 1)) (kk : xG p l e R s m args below meth c Q nL z D cA M k n (pc + 1) L (.int (-x) :: st)) : xG p l e R s m args below meth c Q nL z D cA M k n pc L (.int x :: st) := fun H locs ls hw hs hl => lv_ineg E.1 E.2.1 hdg (kk H locs ls hw hs hl)
theorem x_iushr (E : xE own cc nL D cA p s m args c) {x y : Int32} (hdg : decode cc pc = .ok (.iushr, 1)) (kk : xG p l e R s m args below meth c Q nL z D cA M k n (pc + 1) L (.int ((x.toUInt32 >>> (y.toUInt32 &&& Int32.toUInt32 31)).toInt32) :: st)) : xG p l e R s m args below meth c Q nL z D cA M k n pc L (.int y :: .int x :: st) := fun H locs ls hw hs hl => lv_iushr E.1 E.2.1 hdg rfl (kk H locs ls hw hs hl)
theorem x_lshl (E : xE own cc nL D cA p s m args c) {x : Int64} {y : Int32} (hdg : decode cc pc = .ok (.lshl, 1)) (kk : xG p l e R s m args below meth c Q nL z D cA M k n (pc + 1) L (.long (x <<< (y.toInt64 &&& 63)) :: st)) : xG p l e R s m args below meth c Q nL z D cA M k n pc L (.int y :: .long x :: st) := fun H locs ls hw hs hl => lv_lshl E.1 E.2.1 hdg rfl (kk H locs ls hw hs hl)
theorem x_lshr (E : xE own cc nL D cA p s m args c) {x : Int64} {y : Int32} (hdg : decode cc pc = .ok (.lshr, 1)) (kk : xG p l e R s m args below meth c Q nL z D cA M k n (pc + 1) L (.long (x >>> (y.toInt64 &&& 63)) :: st)) : xG p l e R s m args below meth c Q nL z D cA M k n pc L (.int y :: .long x :: st) := fun H locs ls hw hs hl => lv_lshr E.1 E.2.1 hdg rfl (kk H locs ls hw hs hl)
theorem x_lushr (E : xE own cc nL D cA p s m args c) {x : Int64} {y : Int32} (hdg : decode cc pc = .ok (.lushr, 1)) (kk : xG p l e R s m args below meth c Q nL z D cA M k n (pc + 1) L (.long ((x.toUInt64 >>> (y.toInt64.toUInt64 &&& Int64.toUInt64 63)).toInt64) :: st)) : xG p l e R s m args below meth c Q nL z D cA M k n pc L (.int y :: .long x :: st) := fun H locs ls hw hs hl => lv_lushr E.1 E.2.1 hdg rfl (kk H locs ls hw hs hl)
theorem x_i2l (E : xE own cc nL D cA p s m args c) {x : Int32} (hdg : decode cc pc = .ok (.i2l, 1)) (kk : xG p l e R s m args below meth c Q nL z D cA M k n (pc + 1) L (.long x.toInt64 :: st)) : xG p l e R s m args below meth c Q nL z D cA M k n pc L (.int x :: st) := fun H locs ls hw hs hl => lv_i2l E.1 E.2.1 hdg rfl (kk H locs ls hw hs hl)
theorem x_l2i (E : xE own cc nL D cA p s m args c) {x : Int64} (hdg : decode cc pc = .ok (.l2i, 1)) (kk : xG p l e R s m args below meth c Q nL z D cA M k n (pc + 1) L (.int x.toInt32 :: st)) : xG p l e R s m args below meth c Q nL z D cA M k n pc L (.long x :: st) := fun H locs ls hw hs hl => lv_l2i E.1 E.2.1 hdg rfl (kk H locs ls hw hs hl)
theorem x_lcmp (E : xE own cc nL D cA p s m args c) {x y : Int64} (hdg : decode cc pc = .ok (.lcmp, 1)) (kk : xG p l e R s m args below meth c Q nL z D cA M k n (pc + 1) L (.int (lg_cmp x y) :: st)) : xG p l e R s m args below meth c Q nL z D cA M k n pc L (.long y :: .long x :: st) := fun H locs ls hw hs hl => W.lcmp E.1 E.2.1 hdg (kk H locs ls hw hs hl)
theorem x_dup (E : xE own cc nL D cA p s m args c) {v : Value} (hdg : decode cc pc = .ok (.dup, 1)) (hv : v.category = 1) (kk : xG p l e R s m args below meth c Q nL z D cA M k n (pc + 1) L (v :: v :: st)) : xG p l e R s m args below meth c Q nL z D cA M k n pc L (v :: st) := fun H locs ls hw hs hl => lv_dup E.1 E.2.1 hdg hv (kk H locs ls hw hs hl)
theorem x_dup2 (E : xE own cc nL D cA p s m args c) {v w : Value} (hdg : decode cc pc = .ok (.dup2, 1)) (hv : v.category = 1) (hw2 : w.category = 1) (kk : xG p l e R s m args below meth c Q nL z D cA M k n (pc + 1) L (v :: w :: v :: w :: st)) : xG p l e R s m args below meth c Q nL z D cA M k n pc L (v :: w :: st) := fun H locs ls hw hs hl => lv_dup2_11 E.1 E.2.1 hdg hv hw2 (kk H locs ls hw hs hl)
theorem x_pop (E : xE own cc nL D cA p s m args c) {v : Value} (hdg : decode cc pc = .ok (.pop, 1)) (hv : v.category = 1) (kk : xG p l e R s m args below meth c Q nL z D cA M k n (pc + 1) L (st)) : xG p l e R s m args below meth c Q nL z D cA M k n pc L (v :: st) := fun H locs ls hw hs hl => lv_pop E.1 E.2.1 hdg hv (kk H locs ls hw hs hl)
theorem x_goto (E : xE own cc nL D cA p s m args c) {off : Int} {tgt : Nat} (hdg : decode cc pc = .ok (.goto off, 3)) (ht : (pc : Int) + off = (tgt : Int)) (kk : xG p l e R s m args below meth c Q nL z D cA M k n (tgt) L (st)) : xG p l e R s m args below meth c Q nL z D cA M k n pc L (st) := fun H locs ls hw hs hl => lv_goto E.1 E.2.1 hdg ht (kk H locs ls hw hs hl)
theorem x_ifnonnull (E : xE own cc nL D cA p s m args c) {x : Nat} {off : Int} {tgt : Nat} (hdg : decode cc pc = .ok (.ifnonnull off, 3)) (ht : (pc : Int) + off = (tgt : Int)) (kk : xG p l e R s m args below meth c Q nL z D cA M k n (tgt) L (st)) : xG p l e R s m args below meth c Q nL z D cA M k n pc L (.ref x :: st) := fun H locs ls hw hs hl => lv_ifnonnull E.1 E.2.1 hdg ht (kk H locs ls hw hs hl)
theorem x_ifnull (E : xE own cc nL D cA p s m args c) {x : Nat} {off : Int} (hdg : decode cc pc = .ok (.ifnull off, 3)) (kk : xG p l e R s m args below meth c Q nL z D cA M k n (pc + 3) L (st)) : xG p l e R s m args below meth c Q nL z D cA M k n pc L (.ref x :: st) := fun H locs ls hw hs hl => lv_ifnull E.1 E.2.1 hdg (kk H locs ls hw hs hl)
theorem x_icmp_eq (E : xE own cc nL D cA p s m args c) {x y : Int32} {off : Int} {tgt : Nat} (hdg : decode cc pc = .ok (.if_icmp .eq off, 3)) (ht : (pc : Int) + off = (tgt : Int)) (kt : x = y → xG p l e R s m args below meth c Q nL z D cA M k n tgt L st) (kf : ¬ x = y → xG p l e R s m args below meth c Q nL z D cA M k n (pc + 3) L st) : xG p l e R s m args below meth c Q nL z D cA M k n pc L (.int y :: .int x :: st) := fun H locs ls hw hs hl => lv_icmp_eq E.1 E.2.1 hdg ht (fun h => kt h H locs ls hw hs hl) (fun h => kf h H locs ls hw hs hl)
theorem x_if_eq (E : xE own cc nL D cA p s m args c) {x : Int32} {off : Int} {tgt : Nat} (hdg : decode cc pc = .ok (.ifCond .eq off, 3)) (ht : (pc : Int) + off = (tgt : Int)) (kt : x = J 0 → xG p l e R s m args below meth c Q nL z D cA M k n tgt L st) (kf : ¬ x = J 0 → xG p l e R s m args below meth c Q nL z D cA M k n (pc + 3) L st) : xG p l e R s m args below meth c Q nL z D cA M k n pc L (.int x :: st) := by
  rw [← J0] at kt kf
  exact fun H locs ls hw hs hl => lv_if_eq E.1 E.2.1 hdg ht (fun h => kt h H locs ls hw hs hl) (fun h => kf h H locs ls hw hs hl)
theorem x_icmp_ne (E : xE own cc nL D cA p s m args c) {x y : Int32} {off : Int} {tgt : Nat} (hdg : decode cc pc = .ok (.if_icmp .ne off, 3)) (ht : (pc : Int) + off = (tgt : Int)) (kt : ¬ x = y → xG p l e R s m args below meth c Q nL z D cA M k n tgt L st) (kf : x = y → xG p l e R s m args below meth c Q nL z D cA M k n (pc + 3) L st) : xG p l e R s m args below meth c Q nL z D cA M k n pc L (.int y :: .int x :: st) := fun H locs ls hw hs hl => lv_icmp_ne E.1 E.2.1 hdg ht (fun h => kt h H locs ls hw hs hl) (fun h => kf h H locs ls hw hs hl)
theorem x_if_ne (E : xE own cc nL D cA p s m args c) {x : Int32} {off : Int} {tgt : Nat} (hdg : decode cc pc = .ok (.ifCond .ne off, 3)) (ht : (pc : Int) + off = (tgt : Int)) (kt : ¬ x = J 0 → xG p l e R s m args below meth c Q nL z D cA M k n tgt L st) (kf : x = J 0 → xG p l e R s m args below meth c Q nL z D cA M k n (pc + 3) L st) : xG p l e R s m args below meth c Q nL z D cA M k n pc L (.int x :: st) := by
  rw [← J0] at kt kf
  exact fun H locs ls hw hs hl => lv_if_ne E.1 E.2.1 hdg ht (fun h => kt h H locs ls hw hs hl) (fun h => kf h H locs ls hw hs hl)
theorem x_icmp_lt (E : xE own cc nL D cA p s m args c) {x y : Int32} {off : Int} {tgt : Nat} (hdg : decode cc pc = .ok (.if_icmp .lt off, 3)) (ht : (pc : Int) + off = (tgt : Int)) (kt : x < y → xG p l e R s m args below meth c Q nL z D cA M k n tgt L st) (kf : ¬ x < y → xG p l e R s m args below meth c Q nL z D cA M k n (pc + 3) L st) : xG p l e R s m args below meth c Q nL z D cA M k n pc L (.int y :: .int x :: st) := fun H locs ls hw hs hl => lv_icmp_lt E.1 E.2.1 hdg ht (fun h => kt h H locs ls hw hs hl) (fun h => kf h H locs ls hw hs hl)
theorem x_if_lt (E : xE own cc nL D cA p s m args c) {x : Int32} {off : Int} {tgt : Nat} (hdg : decode cc pc = .ok (.ifCond .lt off, 3)) (ht : (pc : Int) + off = (tgt : Int)) (kt : x < J 0 → xG p l e R s m args below meth c Q nL z D cA M k n tgt L st) (kf : ¬ x < J 0 → xG p l e R s m args below meth c Q nL z D cA M k n (pc + 3) L st) : xG p l e R s m args below meth c Q nL z D cA M k n pc L (.int x :: st) := by
  rw [← J0] at kt kf
  exact fun H locs ls hw hs hl => lv_if_lt E.1 E.2.1 hdg ht (fun h => kt h H locs ls hw hs hl) (fun h => kf h H locs ls hw hs hl)
theorem x_icmp_ge (E : xE own cc nL D cA p s m args c) {x y : Int32} {off : Int} {tgt : Nat} (hdg : decode cc pc = .ok (.if_icmp .ge off, 3)) (ht : (pc : Int) + off = (tgt : Int)) (kt : y ≤ x → xG p l e R s m args below meth c Q nL z D cA M k n tgt L st) (kf : ¬ y ≤ x → xG p l e R s m args below meth c Q nL z D cA M k n (pc + 3) L st) : xG p l e R s m args below meth c Q nL z D cA M k n pc L (.int y :: .int x :: st) := fun H locs ls hw hs hl => lv_icmp_ge E.1 E.2.1 hdg ht (fun h => kt h H locs ls hw hs hl) (fun h => kf h H locs ls hw hs hl)
theorem x_if_ge (E : xE own cc nL D cA p s m args c) {x : Int32} {off : Int} {tgt : Nat} (hdg : decode cc pc = .ok (.ifCond .ge off, 3)) (ht : (pc : Int) + off = (tgt : Int)) (kt : J 0 ≤ x → xG p l e R s m args below meth c Q nL z D cA M k n tgt L st) (kf : ¬ J 0 ≤ x → xG p l e R s m args below meth c Q nL z D cA M k n (pc + 3) L st) : xG p l e R s m args below meth c Q nL z D cA M k n pc L (.int x :: st) := by
  rw [← J0] at kt kf
  exact fun H locs ls hw hs hl => lv_if_ge E.1 E.2.1 hdg ht (fun h => kt h H locs ls hw hs hl) (fun h => kf h H locs ls hw hs hl)
theorem x_icmp_gt (E : xE own cc nL D cA p s m args c) {x y : Int32} {off : Int} {tgt : Nat} (hdg : decode cc pc = .ok (.if_icmp .gt off, 3)) (ht : (pc : Int) + off = (tgt : Int)) (kt : y < x → xG p l e R s m args below meth c Q nL z D cA M k n tgt L st) (kf : ¬ y < x → xG p l e R s m args below meth c Q nL z D cA M k n (pc + 3) L st) : xG p l e R s m args below meth c Q nL z D cA M k n pc L (.int y :: .int x :: st) := fun H locs ls hw hs hl => lv_icmp_gt E.1 E.2.1 hdg ht (fun h => kt h H locs ls hw hs hl) (fun h => kf h H locs ls hw hs hl)
theorem x_if_gt (E : xE own cc nL D cA p s m args c) {x : Int32} {off : Int} {tgt : Nat} (hdg : decode cc pc = .ok (.ifCond .gt off, 3)) (ht : (pc : Int) + off = (tgt : Int)) (kt : J 0 < x → xG p l e R s m args below meth c Q nL z D cA M k n tgt L st) (kf : ¬ J 0 < x → xG p l e R s m args below meth c Q nL z D cA M k n (pc + 3) L st) : xG p l e R s m args below meth c Q nL z D cA M k n pc L (.int x :: st) := by
  rw [← J0] at kt kf
  exact fun H locs ls hw hs hl => lv_if_gt E.1 E.2.1 hdg ht (fun h => kt h H locs ls hw hs hl) (fun h => kf h H locs ls hw hs hl)
theorem x_icmp_le (E : xE own cc nL D cA p s m args c) {x y : Int32} {off : Int} {tgt : Nat} (hdg : decode cc pc = .ok (.if_icmp .le off, 3)) (ht : (pc : Int) + off = (tgt : Int)) (kt : x ≤ y → xG p l e R s m args below meth c Q nL z D cA M k n tgt L st) (kf : ¬ x ≤ y → xG p l e R s m args below meth c Q nL z D cA M k n (pc + 3) L st) : xG p l e R s m args below meth c Q nL z D cA M k n pc L (.int y :: .int x :: st) := fun H locs ls hw hs hl => lv_icmp_le E.1 E.2.1 hdg ht (fun h => kt h H locs ls hw hs hl) (fun h => kf h H locs ls hw hs hl)
theorem x_if_le (E : xE own cc nL D cA p s m args c) {x : Int32} {off : Int} {tgt : Nat} (hdg : decode cc pc = .ok (.ifCond .le off, 3)) (ht : (pc : Int) + off = (tgt : Int)) (kt : x ≤ J 0 → xG p l e R s m args below meth c Q nL z D cA M k n tgt L st) (kf : ¬ x ≤ J 0 → xG p l e R s m args below meth c Q nL z D cA M k n (pc + 3) L st) : xG p l e R s m args below meth c Q nL z D cA M k n pc L (.int x :: st) := by
  rw [← J0] at kt kf
  exact fun H locs ls hw hs hl => lv_if_le E.1 E.2.1 hdg ht (fun h => kt h H locs ls hw hs hl) (fun h => kf h H locs ls hw hs hl)
theorem x_lookup (E : xE own cc nL D cA p s m args c) {dflt : Int} {ps : Array (Int × Int)} {len : Nat} {x : Int32} {off : Int} {tgt : Nat} (hdg : decode cc pc = .ok (.lookupswitch dflt ps, len)) (hp : (ps.toList.zip (ps.toList.drop 1)).all (fun (a, next) => a.1 < next.1) = true) (ho : Op.lookupswitch.offset ps.toList dflt x.toInt = off) (ht : (pc : Int) + off = (tgt : Int)) (kk : xG p l e R s m args below meth c Q nL z D cA M k n tgt L st) : xG p l e R s m args below meth c Q nL z D cA M k n pc L (.int x :: st) := fun H locs ls hw hs hl => lv_lookup E.1 E.2.1 hdg hp ho ht (kk H locs ls hw hs hl)
theorem x_tableIn (E : xE own cc nL D cA p s m args c) {dflt lo hi : Int} {offs : Array Int} {len : Nat} {x : Int32} {off : Int} {tgt : Nat} (hdg : decode cc pc = .ok (.tableswitch dflt lo hi offs, len)) (h1 : ¬ x.toInt < lo) (h2 : ¬ hi < x.toInt) (ho : offs[(x.toInt - lo).toNat]? = some off) (ht : (pc : Int) + off = (tgt : Int)) (kk : xG p l e R s m args below meth c Q nL z D cA M k n tgt L st) : xG p l e R s m args below meth c Q nL z D cA M k n pc L (.int x :: st) := fun H locs ls hw hs hl => lv_tableIn E.1 E.2.1 hdg h1 h2 ho ht (kk H locs ls hw hs hl)
theorem x_tableOut (E : xE own cc nL D cA p s m args c) {dflt lo hi : Int} {offs : Array Int} {len : Nat} {x : Int32} {tgt : Nat} (hdg : decode cc pc = .ok (.tableswitch dflt lo hi offs, len)) (h : x.toInt < lo ∨ hi < x.toInt) (ht : (pc : Int) + dflt = (tgt : Int)) (kk : xG p l e R s m args below meth c Q nL z D cA M k n tgt L st) : xG p l e R s m args below meth c Q nL z D cA M k n pc L (.int x :: st) := fun H locs ls hw hs hl => lv_tableOut E.1 E.2.1 hdg h ht (kk H locs ls hw hs hl)
theorem x_ldc (E : xE own cc nL D cA p s m args c) {index : Nat} {v : Int32} (hc : Cond.constant own index v ∈ gtbl) (hdg : decode cc pc = .ok (.ldc index, 2)) (kk : xG p l e R s m args below meth c Q nL z D cA M k n (pc + 2) L (.int v :: st)) : xG p l e R s m args below meth c Q nL z D cA M k n pc L st := fun H locs ls hw hs hl => lv_ldc E.1 E.2.1 E.2.2.2.1 (E.2.2.2.2.1 _ hc) hdg (kk H locs ls hw hs hl)
theorem x_ldc2 (E : xE own cc nL D cA p s m args c) {index : Nat} {v : Int64} (hc : Cond.constantLong own index v ∈ gtbl) (hdg : decode cc pc = .ok (.ldc2_w index, 3)) (kk : xG p l e R s m args below meth c Q nL z D cA M k n (pc + 3) L (.long v :: st)) : xG p l e R s m args below meth c Q nL z D cA M k n pc L st := fun H locs ls hw hs hl => lv_ldc2 E.1 E.2.1 E.2.2.2.1 (E.2.2.2.2.1 _ hc) hdg (kk H locs ls hw hs hl)
end XG
