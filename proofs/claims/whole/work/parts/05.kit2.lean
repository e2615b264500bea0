/-! fields, arrays, new cells, calls, ends -/
/-- field kf of the class (C, T, N) of kind t, as the class own reaches it -/
def xFL (own : String) (index : Nat) (C : String) (T : u_T) (N t kf : Nat) : Prop :=
  vwCl[t - 1]? = some (C, T, N) ∧ (0 < t ∧ t < 100) ∧ (∀ w ∈ u_ws C T N, w ∈ gtbl) ∧ kf < N ∧ (T kf).1 = C ∧ (Cond.fieldLink own index C (T kf).2.1 (T kf).2.2.1 ∈ gtbl ∨ ∃ host, Cond.fieldLinkNest own index C (T kf).2.1 (T kf).2.2.1 host ∈ ntbl)
/-- what a store in it needs -/
def xFP (T : u_T) (ty : Nat → FieldType) (N kf : Nat) (fin : Bool) : Prop :=
  (∀ j, j < N → parseFieldDescriptor (T j).2.2.1 = some (ty j)) ∧ (∀ a, a < N → ∀ b, b < N → a ≠ b → (T a).2.1 ≠ (T b).2.1) ∧ (T kf).2.2.2 = fin
/-- a method y as the class own reaches it -/
def xML (own : String) (index : Nat) (y : MethodName) (bytes : ByteArray) (maxL : Nat) (ret : Option FieldType) (n : Nat) : Prop :=
  (Cond.methodLink own index y ∈ gtbl ∧ Cond.initialized y.cls ∈ gtbl ∧ Cond.code y bytes maxL ret ∈ gtbl) ∧ y.cls ≠ "java/lang/invoke/MethodHandle" ∧ y.cls ≠ "java/lang/invoke/VarHandle" ∧ (parseMethodDescriptor y.desc).map (fun d => d.parameters.length) = some n
def xMN (own host : String) (index : Nat) (y : MethodName) (bytes : ByteArray) (maxL : Nat) (ret : Option FieldType) (n : Nat) : Prop :=
  (Cond.methodLinkNest own index y host ∈ ntbl ∧ Cond.initialized y.cls ∈ gtbl ∧ Cond.code y bytes maxL ret ∈ gtbl) ∧ y.cls ≠ "java/lang/invoke/MethodHandle" ∧ y.cls ≠ "java/lang/invoke/VarHandle" ∧ (parseMethodDescriptor y.desc).map (fun d => d.parameters.length) = some n
theorem x_pure {α : Type} {K : α → Prop} {T : α → Mem → Prop} {M : Mem} (h : ∀ r, K r → T r M) : ∀ r M1, (M1 = M ∧ K r) → T r M1 := fun r M1 q => by rw [q.1]; exact h r q.2
theorem x_purev {K : Prop} {T : Mem → Prop} {M : Mem} (h : K → T M) : ∀ M1, (M1 = M ∧ K) → T M1 := fun M1 q => by rw [q.1]; exact h q.2
section XH
variable {p : Program} {l : Launch} {e : Env} {R : Room} {s : State} {m : MethodId} {args : Array Value} {below : List Frame} {meth : Method} {c : Code} {Q : State → Prop}
variable {cc : ByteArray} {own : String} {nL : Nat} {z : Nat} {D : va_G} {cA : Nat → ClassId} {M : Mem} {k n pc : Nat} {L L' : List (Nat × Value)} {st : List Value}
theorem x_ldcw (E : xE own cc nL D cA p s m args c) {index : Nat} {v : Int32} (hc : Cond.constant own index v ∈ gtbl) (hdg : decode cc pc = .ok (.ldc_w index, 3)) (kk : xG p l e R s m args below meth c Q nL z D cA M k n (pc + 3) L (.int v :: st)) : xG p l e R s m args below meth c Q nL z D cA M k n pc L st := fun H locs ls hw hs hl => lv_ldcw E.1 E.2.1 E.2.2.2.1 (E.2.2.2.2.1 _ hc) hdg (kk H locs ls hw hs hl)
theorem x_get (E : xE own cc nL D cA p s m args c) {index t kf N a : Nat} {C : String} {T : u_T} {v : Value} (hF : xFL own index C T N t kf) (hdg : decode cc pc = .ok (.getfield index, 3)) (hT : (M.1 a).1 = t) (hv : M.2.1 a kf = v)
    (kk : xG p l e R s m args below meth c Q nL z D cA M k n (pc + 3) L (v :: st)) : xG p l e R s m args below meth c Q nL z D cA M k n pc L (.ref a :: st) := fun H locs ls hw hs hl => by
  obtain ⟨hx, hb, hml, hown, hts, hK, hN⟩ := E
  obtain ⟨hc, ⟨t0, t1⟩, hin, hk, hdec, hlink⟩ := hF
  obtain ⟨cell, q1, q2, q3, q4⟩ := hw.obj hT t0 t1 hc
  obtain ⟨hS, hfc, kC, hkC, hkind⟩ := hK.1 (t - 1) _ hc
  obtain ⟨cf, kf', fi, f, hi, hsl⟩ := hS kf hk
  have hst := (u_facts hfc hkC (u_lays hts hin hk) hi).1
  have hsl2 : cell.slots[f.slot]? = some v := by rw [hsl, q4 kf hk, hv]
  rw [hdec] at hi
  rcases hlink with h | ⟨host, h⟩
  · exact W.getf hx hb hown (hts _ h) hi hst q1 (by rw [q3]; exact fun h => by cases h) hsl2 rfl rfl hdg (kk H locs ls hw hs hl)
  · exact va_Wgetf hx hb hown (va_Nw.use rfl (hN.1 _ h)) hi hst q1 (by rw [q3]; exact fun h => by cases h) hsl2 rfl rfl hdg (kk H locs ls hw hs hl)
theorem x_put (E : xE own cc nL D cA p s m args c) {index t kf N a : Nat} {C : String} {T : u_T} {ty : Nat → FieldType} {v : Value} (hF : xFL own index C T N t kf) (hPf : xFP T ty N kf false) (hd : parseFieldDescriptor (T kf).2.2.1 = some (ty kf)) (hn : narrow (ty kf) v = v) (hfit : fits (ty kf) v = true) (hdg : decode cc pc = .ok (.putfield index, 3)) (hT : (M.1 a).1 = t)
    (kk : ∀ M', M' = xset M a kf v → xG p l e R s m args below meth c Q nL z D cA M' k n (pc + 3) L st) : xG p l e R s m args below meth c Q nL z D cA M k n pc L (v :: .ref a :: st) := fun H locs ls hw hs hl => by
  obtain ⟨hx, hb, hml, hown, hts, hK, hN⟩ := E
  obtain ⟨hc, ⟨t0, t1⟩, hin, hk, hdec, hlink⟩ := hF
  obtain ⟨hty, hnm, hfin⟩ := hPf
  have hap := va_apart (own := own) hts hin ty hty hnm hK hc
  obtain ⟨cell, q1, q2, q3, q4⟩ := hw.obj hT t0 t1 hc
  obtain ⟨hS, hfc, kC, hkC, hkind⟩ := hK.1 (t - 1) _ hc
  obtain ⟨cf, kf', fi, f, hi, hsl⟩ := hS kf hk
  have hlay := hts _ (hin _ (u_in_lay hk))
  unfold u_lay at hlay
  rw [if_neg (by rw [hfin]; decide)] at hlay
  have hst := (u_facts hfc hkC (u_lays hts hin hk) hi).1
  have h6 := u_store hfc hkC hkind hlay hi hd hn hfit
  rw [hdec] at hi
  have go : ∀ H' : Heap, H'[a]? = some (cell.setSlot f.slot v) → H'.size = H.size → (∀ q, q ≠ a → H'[q]? = H[q]?) → W p l e R s m args below meth c H' (locs ++ [⟨a, f.slot⟩]) k n Q (F0 m (pc + 3) ls st) := by
    intro H' e1 e2 e3
    refine kk _ rfl H' _ ls (hw.set e2 e3 ?_) (hs.put e2 e3 (hw.ge (by rw [hT]; omega))) hl
    rw [xset_upd]
    unfold xat
    rw [hT, if_pos t1]
    rw [hsl] at e1
    exact ⟨_, hc, ⟨_, e1, q2, q3, t_set q4 hap hk v⟩⟩
  rcases hlink with h | ⟨host, h⟩
  · exact W.putK hx hb (f := f) ⟨hown, hts _ h, ⟨_, _, _, hi⟩, hst⟩ (by rw [q2]; exact h6) q1 q3 (by rw [hsl]; exact k2_hasslot (q4 kf hk)) rfl rfl hdg go
  · exact va_WputK hx hb (f := f) hown (va_Nw.use rfl (hN.1 _ h)) hi hst (by rw [q2]; exact h6) q1 q3 (by rw [hsl]; exact k2_hasslot (q4 kf hk)) rfl rfl hdg go
theorem x_putF (E : xE own cc nL D cA p s m args c) {index t kf N a : Nat} {C : String} {T : u_T} {ty : Nat → FieldType} {v : Value} (hF : xFL own index C T N t kf) (hlk : Cond.fieldLink own index C (T kf).2.1 (T kf).2.2.1 ∈ gtbl) (hPf : xFP T ty N kf true) (hCo : C = own) (hin2 : meth.name = "<init>") (hd : parseFieldDescriptor (T kf).2.2.1 = some (ty kf)) (hn : narrow (ty kf) v = v) (hfit : fits (ty kf) v = true) (hdg : decode cc pc = .ok (.putfield index, 3)) (hT : (M.1 a).1 = t)
    (kk : ∀ M', M' = xset M a kf v → xG p l e R s m args below meth c Q nL z D cA M' k n (pc + 3) L st) : xG p l e R s m args below meth c Q nL z D cA M k n pc L (v :: .ref a :: st) := fun H locs ls hw hs hl => by
  obtain ⟨hx, hb, hml, hown, hts, hK, hN⟩ := E
  obtain ⟨hc, ⟨t0, t1⟩, hin, hk, hdec, -⟩ := hF
  obtain ⟨hty, hnm, hfin⟩ := hPf
  have hap := va_apart (own := own) hts hin ty hty hnm hK hc
  obtain ⟨cell, q1, q2, q3, q4⟩ := hw.obj hT t0 t1 hc
  obtain ⟨hS, hfc, kC, hkC, hkind⟩ := hK.1 (t - 1) _ hc
  obtain ⟨cf, kf', fi, f, hi, hsl⟩ := hS kf hk
  have hlay := hts _ (hin _ (u_in_lay hk))
  unfold u_lay at hlay
  rw [if_pos hfin] at hlay
  have hst := (u_facts hfc hkC (u_lays hts hin hk) hi).1
  have hcf : m.cls = cf := by
    obtain ⟨_, _, c', _, _, _, -, -, hf', -, -, -, hown2, -⟩ := Cond.laysFinal_spec hlay
    have e1 : c' = cf := by have := hi.symm.trans hf'; simp at this; exact this.1.symm
    rw [hdec, hCo] at hown2
    rw [← e1]; exact Option.some.inj (hown.symm.trans hown2)
  have h6 := u_fits hfc hkC hkind (Or.inr hlay) hi hd hn hfit
  rw [hdec] at hi
  refine W.putFinK hx hb hown (hts _ hlk) hi hst hcf hin2 (by rw [q2]; exact h6) q1 q3 (by rw [hsl]; exact k2_hasslot (q4 kf hk)) rfl rfl hdg fun H' e1 e2 e3 => ?_
  refine kk _ rfl H' _ ls (hw.set e2 e3 ?_) (hs.put e2 e3 (hw.ge (by rw [hT]; omega))) hl
  rw [xset_upd]
  unfold xat
  rw [hT, if_pos t1]
  rw [hsl] at e1
  exact ⟨_, hc, ⟨_, e1, q2, q3, t_set q4 hap hk v⟩⟩
theorem x_iald (E : xE own cc nL D cA p s m args c) {a : Nat} {i : Int32} {v : Value} (hdg : decode cc pc = .ok (.iaload, 1)) (hT : (M.1 a).1 = 100) (hi : vp_in i (M.1 a).2) (hv : M.2.1 a i.toNatClampNeg = v)
    (kk : xG p l e R s m args below meth c Q nL z D cA M k n (pc + 1) L (v :: st)) : xG p l e R s m args below meth c Q nL z D cA M k n pc L (.int i :: .ref a :: st) := fun H locs ls hw hs hl => by
  have hlt : i.toNatClampNeg < (M.1 a).2 := Nat.not_le.mp fun q => hi (Or.inr q)
  exact W.iald (v := v) E.1 E.2.1 (hw.arr (q := 0) hT) ((E.2.2.2.2.2.1.2 0 _ rfl).1 _ _) (fun q => by cases q) (by rw [arrV_size]; exact hi) (by rw [arrV_read _ _ hlt, hv]) rfl rfl hdg (kk H locs ls hw hs hl)
theorem x_zald (E : xE own cc nL D cA p s m args c) {a : Nat} {i : Int32} {v : Value} (hdg : decode cc pc = .ok (.baload, 1)) (hT : (M.1 a).1 = 101) (hi : vp_in i (M.1 a).2) (hv : M.2.1 a i.toNatClampNeg = v)
    (kk : xG p l e R s m args below meth c Q nL z D cA M k n (pc + 1) L (v :: st)) : xG p l e R s m args below meth c Q nL z D cA M k n pc L (.int i :: .ref a :: st) := fun H locs ls hw hs hl => by
  have hlt : i.toNatClampNeg < (M.1 a).2 := Nat.not_le.mp fun q => hi (Or.inr q)
  exact W.zald (v := v) E.1 E.2.1 (hw.arr (q := 1) hT) ((E.2.2.2.2.2.1.2 1 _ rfl).1 _ _) (fun q => by cases q) (by rw [arrV_size]; exact hi) (by rw [arrV_read _ _ hlt, hv]) rfl rfl hdg (kk H locs ls hw hs hl)
theorem x_aald (E : xE own cc nL D cA p s m args c) {a : Nat} {i : Int32} {v : Value} (hdg : decode cc pc = .ok (.aaload, 1)) (hT : (M.1 a).1 = 102) (hi : vp_in i (M.1 a).2) (hv : M.2.1 a i.toNatClampNeg = v)
    (kk : xG p l e R s m args below meth c Q nL z D cA M k n (pc + 1) L (v :: st)) : xG p l e R s m args below meth c Q nL z D cA M k n pc L (.int i :: .ref a :: st) := fun H locs ls hw hs hl => by
  have hlt : i.toNatClampNeg < (M.1 a).2 := Nat.not_le.mp fun q => hi (Or.inr q)
  exact W.aald (v := v) (ty := .object RX0) E.1 E.2.1 (hw.arr (q := 2) hT) ((E.2.2.2.2.2.1.2 2 _ rfl).1 _ _) rfl (fun q => by cases q) (by rw [arrV_size]; exact hi) (by rw [arrV_read _ _ hlt, hv]) rfl rfl hdg (kk H locs ls hw hs hl)
theorem x_arrset {H : Heap} (hw : Wd z D cA M H) {H1 : Heap} {a q j : Nat} {v : Value} (hT : (M.1 a).1 = 100 + q) (e1 : H1[a]? = some ((arrV (cA q) (M.1 a).2 (M.2.1 a)).setSlot j v)) (e2 : H1.size = H.size) (e3 : ∀ q, q ≠ a → H1[q]? = H[q]?) : Wd z D cA (xset M a j v) H1 := by
  refine hw.set e2 e3 ?_
  rw [xset_upd]
  unfold xat
  rw [if_neg (by omega), hT, show 100 + q - 100 = q by omega, e1, arrV_store]
theorem x_iast (E : xE own cc nL D cA p s m args c) {a : Nat} {i x : Int32} (hdg : decode cc pc = .ok (.iastore, 1)) (hT : (M.1 a).1 = 100) (hi : vp_in i (M.1 a).2)
    (kk : ∀ M', M' = xset M a i.toNatClampNeg (.int x) → xG p l e R s m args below meth c Q nL z D cA M' k n (pc + 1) L st) : xG p l e R s m args below meth c Q nL z D cA M k n pc L (.int x :: .int i :: .ref a :: st) := fun H locs ls hw hs hl => by
  refine W.iast E.1 E.2.1 (hw.arr (q := 0) hT) ((E.2.2.2.2.2.1.2 0 _ rfl).1 _ _) (fun q => by cases q) (by rw [arrV_size]; exact hi) rfl rfl hdg fun H1 e1 e2 e3 => ?_
  exact kk _ rfl H1 _ ls (x_arrset hw (q := 0) hT e1 e2 e3) (hs.put e2 e3 (hw.ge (by rw [hT]; omega))) hl
theorem x_zast (E : xE own cc nL D cA p s m args c) {a : Nat} {i x : Int32} (hdg : decode cc pc = .ok (.bastore, 1)) (hT : (M.1 a).1 = 101) (hi : vp_in i (M.1 a).2)
    (kk : ∀ M', M' = xset M a i.toNatClampNeg (narrow .boolean (.int x)) → xG p l e R s m args below meth c Q nL z D cA M' k n (pc + 1) L st) : xG p l e R s m args below meth c Q nL z D cA M k n pc L (.int x :: .int i :: .ref a :: st) := fun H locs ls hw hs hl => by
  refine W.zast E.1 E.2.1 (hw.arr (q := 1) hT) ((E.2.2.2.2.2.1.2 1 _ rfl).1 _ _) (fun q => by cases q) (by rw [arrV_size]; exact hi) rfl rfl hdg fun H1 e1 e2 e3 => ?_
  exact kk _ rfl H1 _ ls (x_arrset hw (q := 1) hT e1 e2 e3) (hs.put e2 e3 (hw.ge (by rw [hT]; omega))) hl
theorem x_aast (E : xE own cc nL D cA p s m args c) {a v : Nat} {i : Int32} (hdg : decode cc pc = .ok (.aastore, 1)) (hT : (M.1 a).1 = 102) (hi : vp_in i (M.1 a).2) (hv : (M.1 v).1 = 1)
    (kk : ∀ M', M' = xset M a i.toNatClampNeg (.ref v) → xG p l e R s m args below meth c Q nL z D cA M' k n (pc + 1) L st) : xG p l e R s m args below meth c Q nL z D cA M k n pc L (.ref v :: .int i :: .ref a :: st) := fun H locs ls hw hs hl => by
  have hK := E.2.2.2.2.2.1
  have hlt : i.toNatClampNeg < (M.1 a).2 := Nat.not_le.mp fun q => hi (Or.inr q)
  have h0 : ¬ i < 0 := fun q => hi (Or.inl q)
  obtain ⟨cellV, g1, g2, g3, -⟩ := hw.obj hv (by omega) (by omega) (r := (RX0, TX0, 12)) rfl
  have hcls := (hK.1 0 (RX0, TX0, 12) rfl).2
  obtain ⟨kA, comp, k1, k2, k3, -⟩ := (hK.2 2 _ rfl).2
  have hcomp : comp = D.1 0 := Option.some.inj (k3.symm.trans hcls.1)
  subst hcomp
  obtain ⟨kC, hkC, -⟩ := hcls.2
  refine W.aast E.1 E.2.1 (hw.arr (q := 2) hT) (fun q h => by cases h) (fun h => by cases h) k1 k2 rfl hkC ⟨h0, by rw [arrV_size]; exact hlt⟩ g1 (fun q h => by rw [g3] at h; cases h) (by rw [g2]; exact hkC) (by rw [g2]; exact va_assign hcls) rfl rfl hdg fun H1 e1 e2 e3 => ?_
  exact kk _ rfl H1 _ ls (x_arrset hw (q := 2) hT e1 e2 e3) (hs.put e2 e3 (hw.ge (by rw [hT]; omega))) hl
theorem x_alen (E : xE own cc nL D cA p s m args c) {a q : Nat} {ty : FieldType} (hq : [(cA 0, FieldType.int), (cA 1, .boolean), (cA 2, .object RX0)][q]? = some (cA q, ty)) (hdg : decode cc pc = .ok (.arraylength, 1)) (hT : (M.1 a).1 = 100 + q)
    (kk : ∀ v, v = Int32.ofNat (M.1 a).2 → xG p l e R s m args below meth c Q nL z D cA M k n (pc + 1) L (.int v :: st)) : xG p l e R s m args below meth c Q nL z D cA M k n pc L (.ref a :: st) := fun H locs ls hw hs hl =>
  W.alen (n := Int32.ofNat (M.1 a).2) E.1 E.2.1 (hw.arr hT) ((E.2.2.2.2.2.1.2 q _ hq).1 _ _) (by rw [arrV_size] <;> rfl) rfl rfl hdg (kk _ rfl H locs ls hw hs hl)
theorem x_new (E : xE own cc nL D cA p s m args c) {index t N : Nat} {C : String} {T : u_T} {ty : Nat → FieldType} (hc : vwCl[t - 1]? = some (C, T, N)) (ht : 0 < t ∧ t < 100) (hin : ∀ w ∈ u_ws C T N, w ∈ gtbl) (hty : ∀ j, j < N → parseFieldDescriptor (T j).2.2.1 = some (ty j)) (hcl : Cond.classLink own index C ∈ gtbl) (hinst : Cond.instantiable C N ∈ gtbl) (hini : Cond.initialized C ∈ gtbl) (hcells : k + 1 ≤ R.cells) (hslots : n + N ≤ R.slots) (hdg : decode cc pc = .ok (.new index, 3))
    (kk : ∀ q M', q = M.2.2 → M' = xnew M t N (fun j => defaultValue (ty j)) → xG p l e R s m args below meth c Q nL z D cA M' (k + 1) (n + N) (pc + 3) L (.ref q :: st)) : xG p l e R s m args below meth c Q nL z D cA M k n pc L st := fun H locs ls hw hs hl => by
  obtain ⟨hx, hb, hml, hown, hts, hK, hN⟩ := E
  have hKn := hK.1 (t - 1) _ hc
  refine W.newcK hx hb hown (hts _ hcl) (hts _ hinst) (hts _ hini) rfl hdg hcells hslots hKn.2.1 hw.2.1 fun H1 kC hkC e1 z1 o1 => ?_
  refine kk _ _ rfl rfl H1 _ ls (hw.new (by rw [z1, hw.2.1]) (fun q hq => o1 q (by rw [hw.2.1] at hq; exact hq)) ?_) ⟨Nat.le_trans hs.1 (by rw [z1, hw.2.1]; omega), fun x h1 h2 => (o1 x (by have := hs.1; rw [hw.2.1] at this; omega)).trans (hs.2.1 x h1 h2), hs.2.2⟩ hl
  unfold xat
  rw [if_pos ht.2, hw.2.1]
  exact ⟨_, hc, u_born ty hts hin hKn hkC e1 hty⟩
theorem x_newa (E : xE own cc nL D cA p s m args c) {atype : ArrayType} {ty : FieldType} {q N : Nat} {i : Int32} (hty : newarray.typeOf atype = ty) (hq : [(cA 0, FieldType.int), (cA 1, .boolean), (cA 2, .object RX0)][q]? = some (cA q, ty)) (hpr : ∀ C, ty ≠ .object C) (harr : Cond.arrayClass ty ∈ gtbl) (hn : ¬ i < 0) (hN : i.toNatClampNeg ≤ N) (hNb : N * componentBytes ty ≤ 536870912) (hcells : k + 1 ≤ R.cells) (hslots : n + N ≤ R.slots) (hdg : decode cc pc = .ok (.newarray atype, 2))
    (kk : ∀ r M', r = M.2.2 → M' = xnew M (100 + q) i.toNatClampNeg (fun _ => defaultValue ty) → xG p l e R s m args below meth c Q nL z D cA M' (k + 1) (n + N) (pc + 2) L (.ref r :: st)) : xG p l e R s m args below meth c Q nL z D cA M k n pc L (.int i :: st) := fun H locs ls hw hs hl => by
  obtain ⟨hx, hb, hml, hown, hts, hK, hN'⟩ := E
  subst hty
  refine va_newaK hx hb (hts _ harr) rfl hdg rfl hn rfl (Nat.le_trans (Nat.mul_le_mul_right _ hN) hNb) hcells (by omega) hw.2.1 fun H1 cA' e1 z1 o1 _ hnm => ?_
  have hra := (hK.2 q _ hq).2
  have hcA : cA' = cA q := by
    have h2 : s.vm.findClass ("[" ++ (newarray.typeOf atype).toString) = some (cA q) := by
      cases atype <;> exact hra
    exact Option.some.inj (hnm.symm.trans h2)
  subst hcA
  refine W.widen (Nat.le_refl _) (Nat.add_le_add_left hN n) (kk _ _ rfl rfl H1 _ ls (hw.new (by rw [z1, hw.2.1]) (fun q hq => o1 q (by rw [hw.2.1] at hq; exact hq)) ?_) ⟨Nat.le_trans hs.1 (by rw [z1, hw.2.1]; omega), fun x h1 h2 => (o1 x (by have := hs.1; rw [hw.2.1] at this; omega)).trans (hs.2.1 x h1 h2), hs.2.2⟩ hl)
  unfold xat
  rw [if_neg (by show ¬ 100 + q < 100; omega), hw.2.1, show (100 + q, i.toNatClampNeg).1 - 100 = q by show 100 + q - 100 = q; omega]
  exact e1
theorem x_anew (E : xE own cc nL D cA p s m args c) {index N : Nat} {i : Int32} (hcl : Cond.classLink own index RX0 ∈ gtbl) (hn : ¬ i < 0) (hN : i.toNatClampNeg ≤ N) (hNb : N * 4 ≤ 536870912) (hcells : k + 1 ≤ R.cells) (hslots : n + N ≤ R.slots) (hdg : decode cc pc = .ok (.anewarray index, 3))
    (kk : ∀ r M', r = M.2.2 → M' = xnew M 102 i.toNatClampNeg (fun _ => .null) → xG p l e R s m args below meth c Q nL z D cA M' (k + 1) (n + N) (pc + 3) L (.ref r :: st)) : xG p l e R s m args below meth c Q nL z D cA M k n pc L (.int i :: st) := fun H locs ls hw hs hl => by
  obtain ⟨hx, hb, hml, hown, hts, hK, hN'⟩ := E
  refine W.anew hx hb hown (hts _ hcl) hN'.2.use rfl hdg rfl hn (Nat.le_trans (Nat.mul_le_mul_right _ hN) hNb) hcells (by omega) fun cA' kA comp h1 h2 h3 h4 => ?_
  obtain ⟨kA', comp', k1, k2, k3, k4⟩ := (hK.2 2 _ rfl).2
  have hcA : cA' = cA 2 := Option.some.inj (h1.symm.trans k4)
  subst hcA
  rw [hw.2.1]
  have z1 : (H.push { cls := cA 2, slots := Array.replicate i.toNatClampNeg .null, vm := .none }).size = H.size + 1 := by simp
  have o1 : ∀ q : Nat, q < H.size → (H.push { cls := cA 2, slots := Array.replicate i.toNatClampNeg .null, vm := .none })[q]? = H[q]? := fun q hq => by
    rw [Array.getElem?_push, if_neg (Nat.ne_of_lt hq)]
  refine W.widen (Nat.le_refl _) (Nat.add_le_add_left hN n) (kk _ _ rfl rfl _ _ ls (hw.new z1 o1 ?_) ⟨Nat.le_trans hs.1 (by omega), fun x g1 g2 => (o1 x (Nat.lt_of_lt_of_le g1 hs.1)).trans (hs.2.1 x g1 g2), hs.2.2⟩ hl)
  unfold xat
  rw [if_neg (by show ¬ 102 < 100; omega), show (102, i.toNatClampNeg).1 - 100 = 2 from rfl, ← arrV_new]
  simp
theorem x_objInit (E : xE own cc nL D cA p s m args c) {index a : Nat} (hlk : Cond.methodLink own index objectInit ∈ gtbl) (hin : Cond.instanceMethod objectInit ∈ gtbl) (hcd : Cond.code objectInit ⟨#[0xb1]⟩ 1 none ∈ gtbl) (hdg : decode cc pc = .ok (.invokespecial index, 3)) (hf : 1 ≤ R.frames) (hlo : (st.map fun v => v.category).sum + 12 ≤ R.locals)
    (kk : xG p l e R s m args below meth c Q nL z D cA M k n (pc + 3) L st) : xG p l e R s m args below meth c Q nL z D cA M k n pc L (.ref a :: st) := fun H locs ls hw hs hl => by
  refine W.objInit E.1 E.2.1 E.2.2.2.1 (E.2.2.2.2.1 _ hlk) (E.2.2.2.2.1 _ hin) (E.2.2.2.2.1 _ hcd) rfl (by rw [E.2.2.1]; exact hl.1) rfl hdg hf (by show 2 * 0 + _ + 12 ≤ _; omega) ?_
  exact W.eq (g2 := F0 m (pc + 3) ls st) rfl (kk H locs ls hw hs hl)

theorem x_mmax (E : xE own cc nL D cA p s m args c) {index : Nat} {x y : Int32} (hlk : Cond.methodLink own index Lib.Math.max.name ∈ gtbl) (hst : Cond.static Lib.Math.max.name ∈ gtbl) (hini : Cond.initialized "java/lang/Math" ∈ gtbl) (hcd : Cond.code Lib.Math.max.name Lib.Math.max.code 2 (some .int) ∈ gtbl) (hdg : decode cc pc = .ok (.invokestatic index, 3)) (hf : 1 ≤ R.frames) (hlo : (st.map fun v => v.category).sum + 13 ≤ R.locals) (hc : k ≤ R.cells) (hsl : n ≤ R.slots)
    (kk : xG p l e R s m args below meth c Q nL z D cA M k n (pc + 3) L (.int (if x < y then y else x) :: st)) : xG p l e R s m args below meth c Q nL z D cA M k n pc L (.int y :: .int x :: st) := fun H locs ls hw hs hl =>
  va_mmax E.1 E.2.1 (by rw [E.2.2.1]; exact hl.1.symm) E.2.2.2.1 (E.2.2.2.2.1 _ hlk) (E.2.2.2.2.1 _ hst) (E.2.2.2.2.1 _ hini) (E.2.2.2.2.1 _ hcd) hf hlo hc hsl hdg (kk H locs ls hw hs hl)
theorem x_mmin (E : xE own cc nL D cA p s m args c) {index : Nat} {x y : Int32} (hlk : Cond.methodLink own index Lib.Math.min.name ∈ gtbl) (hst : Cond.static Lib.Math.min.name ∈ gtbl) (hini : Cond.initialized "java/lang/Math" ∈ gtbl) (hcd : Cond.code Lib.Math.min.name Lib.Math.min.code 2 (some .int) ∈ gtbl) (hdg : decode cc pc = .ok (.invokestatic index, 3)) (hf : 1 ≤ R.frames) (hlo : (st.map fun v => v.category).sum + 13 ≤ R.locals) (hc : k ≤ R.cells) (hsl : n ≤ R.slots)
    (kk : xG p l e R s m args below meth c Q nL z D cA M k n (pc + 3) L (.int (if y < x then y else x) :: st)) : xG p l e R s m args below meth c Q nL z D cA M k n pc L (.int y :: .int x :: st) := fun H locs ls hw hs hl =>
  va_mmin E.1 E.2.1 (by rw [E.2.2.1]; exact hl.1.symm) E.2.2.2.1 (E.2.2.2.2.1 _ hlk) (E.2.2.2.2.1 _ hst) (E.2.2.2.2.1 _ hini) (E.2.2.2.2.1 _ hcd) hf hlo hc hsl hdg (kk H locs ls hw hs hl)
theorem x_mabs (E : xE own cc nL D cA p s m args c) {index : Nat} {x : Int32} (hlk : Cond.methodLink own index Lib.Math.abs.name ∈ gtbl) (hst : Cond.static Lib.Math.abs.name ∈ gtbl) (hini : Cond.initialized "java/lang/Math" ∈ gtbl) (hcd : Cond.code Lib.Math.abs.name Lib.Math.abs.code 1 (some .int) ∈ gtbl) (hdg : decode cc pc = .ok (.invokestatic index, 3)) (hf : 1 ≤ R.frames) (hlo : (st.map fun v => v.category).sum + 13 ≤ R.locals) (hc : k ≤ R.cells) (hsl : n ≤ R.slots)
    (kk : xG p l e R s m args below meth c Q nL z D cA M k n (pc + 3) L (.int (if 0 ≤ x then x else 0 - x) :: st)) : xG p l e R s m args below meth c Q nL z D cA M k n pc L (.int x :: st) := fun H locs ls hw hs hl =>
  va_mabs E.1 E.2.1 (by rw [E.2.2.1]; exact hl.1.symm) E.2.2.2.1 (E.2.2.2.2.1 _ hlk) (E.2.2.2.2.1 _ hst) (E.2.2.2.2.1 _ hini) (E.2.2.2.2.1 _ hcd) hf hlo hc hsl hdg (kk H locs ls hw hs hl)
theorem x_callVi (E : xE own cc nL D cA p s m args c) {index t N nA maxL mc ms b : Nat} {y : MethodName} {T : u_T} {bytes : ByteArray} {ret : Option FieldType} {rm : Room} {As : List Value} {K : Int32 → Mem → Prop} (hML : xML own index y bytes maxL ret nA) (hinst : Cond.instanceMethod y ∈ gtbl) (hsel : Cond.selects y.cls y y ∈ gtbl) (hc : vwCl[t - 1]? = some (y.cls, T, N)) (ht : 0 < t ∧ t < 100) (hT : (M.1 b).1 = t)
    (hM : Met l y (.code y bytes maxL ret :: gtbl) rm (va_Pc (.ref b :: As) (xB z D cA M)) (va_Qi K (xWd z D cA) (xA z)) mc ms (xA z)) (hA : As.length = nA) (hrm : rm.cells = mc ∧ rm.slots = ms) (hR : rm.frames + 1 ≤ R.frames ∧ 8 + (maxL + 11) + rm.locals ≤ R.locals) (hf : k + mc ≤ R.cells ∧ n + ms ≤ R.slots) (hst : (st.map fun v => v.category).sum ≤ 8) {stk : List Value} (hstk : stk = As.reverse ++ .ref b :: st) (hdg : decode cc pc = .ok (.invokevirtual index, 3))
    (kk : ∀ r M1, K r M1 → xG p l e R s m args below meth c Q nL z D cA M1 (k + mc) (n + ms) (pc + 3) L (.int r :: st)) : xG p l e R s m args below meth c Q nL z D cA M k n pc L stk := fun H locs ls hw hs hl => by
  obtain ⟨⟨m1, m2, m3⟩, m4⟩ := hML
  subst hstk
  have cw : CallW R s args own y.cls index y bytes maxL ret (.code y bytes maxL ret :: gtbl) rm mc ms nA := cwV (Ts := gtbl) nA E.2.2.2.2.1 (gin_app (ws := [.methodLink own index y, .instanceMethod y, .selects y.cls y y, .initialized y.cls]) (fun x hx => by simp only [List.mem_cons, List.not_mem_nil, or_false] at hx; rcases hx with rfl | rfl | rfl | rfl <;> assumption) m3) rfl hrm.1 hrm.2 ⟨rfl, m4⟩ hR
  obtain ⟨cell, q1, q2, q3, q4⟩ := hw.obj hT ht.1 ht.2 hc
  have hfc := (E.2.2.2.2.2.1.1 (t - 1) _ hc).2.1
  refine va_calli (va_runV (As := As) (rest := st) ⟨E.1, E.2.1, E.2.2.1, E.2.2.2.1, E.2.2.2.2.1⟩ hM cw ⟨xB.blind, ⟨cell, q1, by rw [q3]; rfl, by rw [q2]; exact hfc⟩, fun U hU hW => ⟨rfl, by rw [hU]; exact hw, va_K.moved hW.alike E.2.2.2.2.2.1, E.2.2.2.2.2.2.warm hW⟩⟩ rfl hA hl.1 rfl (lv_room hst) hdg hf) hs (fun q _ h => h) (fun q h => h) (fun r M1 t H1 locs1 ht hvm hp hB hz1 hk1 hS1 => kk r M1 hp H1 locs1 ls (by subst ht; exact hB) hS1 hl)
theorem x_callSi (E : xE own cc nL D cA p s m args c) {index nA maxL mc ms : Nat} {y : MethodName} {bytes : ByteArray} {ret : Option FieldType} {rm : Room} {As : List Value} {K : Int32 → Mem → Prop} (hML : xML own index y bytes maxL ret nA) (hcls : y.cls = own) (hsta : Cond.static y ∈ gtbl)
    (hM : Met l y (.code y bytes maxL ret :: gtbl) rm (va_Pc As (xB z D cA M)) (va_Qi K (xWd z D cA) (xA z)) mc ms (xA z)) (hA : As.length = nA) (hrm : rm.cells = mc ∧ rm.slots = ms) (hR : rm.frames + 1 ≤ R.frames ∧ 8 + (maxL + 11) + rm.locals ≤ R.locals) (hf : k + mc ≤ R.cells ∧ n + ms ≤ R.slots) (hst : (st.map fun v => v.category).sum ≤ 8) {stk : List Value} (hstk : stk = As.reverse ++ st) (hdg : decode cc pc = .ok (.invokestatic index, 3))
    (kk : ∀ r M1, K r M1 → xG p l e R s m args below meth c Q nL z D cA M1 (k + mc) (n + ms) (pc + 3) L (.int r :: st)) : xG p l e R s m args below meth c Q nL z D cA M k n pc L stk := fun H locs ls hw hs hl => by
  obtain ⟨⟨m1, m2, m3⟩, m4⟩ := hML
  subst hstk
  have cw : CallB R s args own index y bytes maxL ret (.code y bytes maxL ret :: gtbl) rm mc ms nA ∧ (Cond.static y).before args s = true := cwS (Ts := gtbl) nA E.2.2.2.2.1 (gin_app (ws := [.methodLink own index y, .static y, .initialized own]) (fun x hx => by simp only [List.mem_cons, List.not_mem_nil, or_false] at hx; rcases hx with rfl | rfl | rfl; exact m1; exact hsta; exact hcls ▸ m2) m3) rfl hrm.1 hrm.2 ⟨hcls, m4⟩ hR
  refine va_calli (va_runS (As := As) (rest := st) ⟨E.1, E.2.1, E.2.2.1, E.2.2.2.1, E.2.2.2.2.1⟩ hM cw ⟨xB.blind, fun U hU hW => ⟨rfl, by rw [hU]; exact hw, va_K.moved hW.alike E.2.2.2.2.2.1, E.2.2.2.2.2.2.warm hW⟩⟩ rfl hA hl.1 rfl (lv_room hst) hdg hf) hs (fun q _ h => h) (fun q h => h) (fun r M1 t H1 locs1 ht hvm hp hB hz1 hk1 hS1 => kk r M1 hp H1 locs1 ls (by subst ht; exact hB) hS1 hl)
theorem x_callSNi (E : xE own cc nL D cA p s m args c) {index nA maxL mc ms : Nat} {host : String} {y : MethodName} {bytes : ByteArray} {ret : Option FieldType} {rm : Room} {As : List Value} {K : Int32 → Mem → Prop} (hML : xMN own host index y bytes maxL ret nA) (hsta : Cond.static y ∈ gtbl)
    (hM : Met l y (.code y bytes maxL ret :: gtbl) rm (va_Pc As (xB z D cA M)) (va_Qi K (xWd z D cA) (xA z)) mc ms (xA z)) (hA : As.length = nA) (hrm : rm.cells = mc ∧ rm.slots = ms) (hR : rm.frames + 1 ≤ R.frames ∧ 8 + (maxL + 11) + rm.locals ≤ R.locals) (hf : k + mc ≤ R.cells ∧ n + ms ≤ R.slots) (hst : (st.map fun v => v.category).sum ≤ 8) {stk : List Value} (hstk : stk = As.reverse ++ st) (hdg : decode cc pc = .ok (.invokestatic index, 3))
    (kk : ∀ r M1, K r M1 → xG p l e R s m args below meth c Q nL z D cA M1 (k + mc) (n + ms) (pc + 3) L (.int r :: st)) : xG p l e R s m args below meth c Q nL z D cA M k n pc L stk := fun H locs ls hw hs hl => by
  obtain ⟨⟨m1, m2, m3⟩, m4⟩ := hML
  subst hstk
  have cw : va_CN R s args own index y host bytes maxL ret (.code y bytes maxL ret :: gtbl) rm mc ms nA ∧ (Cond.static y).before args s = true ∧ True := ⟨va_cnB (Ts := gtbl) nA E.2.2.2.2.1 (gin m3) rfl hrm.1 hrm.2 (E.2.2.2.2.2.2.1 _ m1) (E.2.2.2.2.1 _ m2) m4 hR, E.2.2.2.2.1 _ hsta, trivial⟩
  refine va_calli (va_runSN (As := As) (rest := st) ⟨E.1, E.2.1, E.2.2.1, E.2.2.2.1, E.2.2.2.2.1⟩ hM cw ⟨xB.blind, fun U hU hW => ⟨rfl, by rw [hU]; exact hw, va_K.moved hW.alike E.2.2.2.2.2.1, E.2.2.2.2.2.2.warm hW⟩⟩ rfl hA hl.1 rfl (lv_room hst) hdg hf) hs (fun q _ h => h) (fun q h => h) (fun r M1 t H1 locs1 ht hvm hp hB hz1 hk1 hS1 => kk r M1 hp H1 locs1 ls (by subst ht; exact hB) hS1 hl)
theorem x_callVl (E : xE own cc nL D cA p s m args c) {index t N nA maxL mc ms b : Nat} {y : MethodName} {T : u_T} {bytes : ByteArray} {ret : Option FieldType} {rm : Room} {As : List Value} {K : Int64 → Mem → Prop} (hML : xML own index y bytes maxL ret nA) (hinst : Cond.instanceMethod y ∈ gtbl) (hsel : Cond.selects y.cls y y ∈ gtbl) (hc : vwCl[t - 1]? = some (y.cls, T, N)) (ht : 0 < t ∧ t < 100) (hT : (M.1 b).1 = t)
    (hM : Met l y (.code y bytes maxL ret :: gtbl) rm (va_Pc (.ref b :: As) (xB z D cA M)) (va_Ql K (xWd z D cA) (xA z)) mc ms (xA z)) (hA : As.length = nA) (hrm : rm.cells = mc ∧ rm.slots = ms) (hR : rm.frames + 1 ≤ R.frames ∧ 8 + (maxL + 11) + rm.locals ≤ R.locals) (hf : k + mc ≤ R.cells ∧ n + ms ≤ R.slots) (hst : (st.map fun v => v.category).sum ≤ 8) {stk : List Value} (hstk : stk = As.reverse ++ .ref b :: st) (hdg : decode cc pc = .ok (.invokevirtual index, 3))
    (kk : ∀ r M1, K r M1 → xG p l e R s m args below meth c Q nL z D cA M1 (k + mc) (n + ms) (pc + 3) L (.long r :: st)) : xG p l e R s m args below meth c Q nL z D cA M k n pc L stk := fun H locs ls hw hs hl => by
  obtain ⟨⟨m1, m2, m3⟩, m4⟩ := hML
  subst hstk
  have cw : CallW R s args own y.cls index y bytes maxL ret (.code y bytes maxL ret :: gtbl) rm mc ms nA := cwV (Ts := gtbl) nA E.2.2.2.2.1 (gin_app (ws := [.methodLink own index y, .instanceMethod y, .selects y.cls y y, .initialized y.cls]) (fun x hx => by simp only [List.mem_cons, List.not_mem_nil, or_false] at hx; rcases hx with rfl | rfl | rfl | rfl <;> assumption) m3) rfl hrm.1 hrm.2 ⟨rfl, m4⟩ hR
  obtain ⟨cell, q1, q2, q3, q4⟩ := hw.obj hT ht.1 ht.2 hc
  have hfc := (E.2.2.2.2.2.1.1 (t - 1) _ hc).2.1
  refine va_calll (va_runV (As := As) (rest := st) ⟨E.1, E.2.1, E.2.2.1, E.2.2.2.1, E.2.2.2.2.1⟩ hM cw ⟨xB.blind, ⟨cell, q1, by rw [q3]; rfl, by rw [q2]; exact hfc⟩, fun U hU hW => ⟨rfl, by rw [hU]; exact hw, va_K.moved hW.alike E.2.2.2.2.2.1, E.2.2.2.2.2.2.warm hW⟩⟩ rfl hA hl.1 rfl (lv_room hst) hdg hf) hs (fun q _ h => h) (fun q h => h) (fun r M1 t H1 locs1 ht hvm hp hB hz1 hk1 hS1 => kk r M1 hp H1 locs1 ls (by subst ht; exact hB) hS1 hl)
theorem x_callSl (E : xE own cc nL D cA p s m args c) {index nA maxL mc ms : Nat} {y : MethodName} {bytes : ByteArray} {ret : Option FieldType} {rm : Room} {As : List Value} {K : Int64 → Mem → Prop} (hML : xML own index y bytes maxL ret nA) (hcls : y.cls = own) (hsta : Cond.static y ∈ gtbl)
    (hM : Met l y (.code y bytes maxL ret :: gtbl) rm (va_Pc As (xB z D cA M)) (va_Ql K (xWd z D cA) (xA z)) mc ms (xA z)) (hA : As.length = nA) (hrm : rm.cells = mc ∧ rm.slots = ms) (hR : rm.frames + 1 ≤ R.frames ∧ 8 + (maxL + 11) + rm.locals ≤ R.locals) (hf : k + mc ≤ R.cells ∧ n + ms ≤ R.slots) (hst : (st.map fun v => v.category).sum ≤ 8) {stk : List Value} (hstk : stk = As.reverse ++ st) (hdg : decode cc pc = .ok (.invokestatic index, 3))
    (kk : ∀ r M1, K r M1 → xG p l e R s m args below meth c Q nL z D cA M1 (k + mc) (n + ms) (pc + 3) L (.long r :: st)) : xG p l e R s m args below meth c Q nL z D cA M k n pc L stk := fun H locs ls hw hs hl => by
  obtain ⟨⟨m1, m2, m3⟩, m4⟩ := hML
  subst hstk
  have cw : CallB R s args own index y bytes maxL ret (.code y bytes maxL ret :: gtbl) rm mc ms nA ∧ (Cond.static y).before args s = true := cwS (Ts := gtbl) nA E.2.2.2.2.1 (gin_app (ws := [.methodLink own index y, .static y, .initialized own]) (fun x hx => by simp only [List.mem_cons, List.not_mem_nil, or_false] at hx; rcases hx with rfl | rfl | rfl; exact m1; exact hsta; exact hcls ▸ m2) m3) rfl hrm.1 hrm.2 ⟨hcls, m4⟩ hR
  refine va_calll (va_runS (As := As) (rest := st) ⟨E.1, E.2.1, E.2.2.1, E.2.2.2.1, E.2.2.2.2.1⟩ hM cw ⟨xB.blind, fun U hU hW => ⟨rfl, by rw [hU]; exact hw, va_K.moved hW.alike E.2.2.2.2.2.1, E.2.2.2.2.2.2.warm hW⟩⟩ rfl hA hl.1 rfl (lv_room hst) hdg hf) hs (fun q _ h => h) (fun q h => h) (fun r M1 t H1 locs1 ht hvm hp hB hz1 hk1 hS1 => kk r M1 hp H1 locs1 ls (by subst ht; exact hB) hS1 hl)
theorem x_callVv (E : xE own cc nL D cA p s m args c) {index t N nA maxL mc ms b : Nat} {y : MethodName} {T : u_T} {bytes : ByteArray} {ret : Option FieldType} {rm : Room} {As : List Value} {K : Mem → Prop} (hML : xML own index y bytes maxL ret nA) (hinst : Cond.instanceMethod y ∈ gtbl) (hsel : Cond.selects y.cls y y ∈ gtbl) (hc : vwCl[t - 1]? = some (y.cls, T, N)) (ht : 0 < t ∧ t < 100) (hT : (M.1 b).1 = t)
    (hM : Met l y (.code y bytes maxL ret :: gtbl) rm (va_Pc (.ref b :: As) (xB z D cA M)) (va_Qv K (xWd z D cA) (xA z)) mc ms (xA z)) (hA : As.length = nA) (hrm : rm.cells = mc ∧ rm.slots = ms) (hR : rm.frames + 1 ≤ R.frames ∧ 8 + (maxL + 11) + rm.locals ≤ R.locals) (hf : k + mc ≤ R.cells ∧ n + ms ≤ R.slots) (hst : (st.map fun v => v.category).sum ≤ 8) {stk : List Value} (hstk : stk = As.reverse ++ .ref b :: st) (hdg : decode cc pc = .ok (.invokevirtual index, 3))
    (kk : ∀ M1, K M1 → xG p l e R s m args below meth c Q nL z D cA M1 (k + mc) (n + ms) (pc + 3) L st) : xG p l e R s m args below meth c Q nL z D cA M k n pc L stk := fun H locs ls hw hs hl => by
  obtain ⟨⟨m1, m2, m3⟩, m4⟩ := hML
  subst hstk
  have cw : CallW R s args own y.cls index y bytes maxL ret (.code y bytes maxL ret :: gtbl) rm mc ms nA := cwV (Ts := gtbl) nA E.2.2.2.2.1 (gin_app (ws := [.methodLink own index y, .instanceMethod y, .selects y.cls y y, .initialized y.cls]) (fun x hx => by simp only [List.mem_cons, List.not_mem_nil, or_false] at hx; rcases hx with rfl | rfl | rfl | rfl <;> assumption) m3) rfl hrm.1 hrm.2 ⟨rfl, m4⟩ hR
  obtain ⟨cell, q1, q2, q3, q4⟩ := hw.obj hT ht.1 ht.2 hc
  have hfc := (E.2.2.2.2.2.1.1 (t - 1) _ hc).2.1
  refine va_callv (va_runV (As := As) (rest := st) ⟨E.1, E.2.1, E.2.2.1, E.2.2.2.1, E.2.2.2.2.1⟩ hM cw ⟨xB.blind, ⟨cell, q1, by rw [q3]; rfl, by rw [q2]; exact hfc⟩, fun U hU hW => ⟨rfl, by rw [hU]; exact hw, va_K.moved hW.alike E.2.2.2.2.2.1, E.2.2.2.2.2.2.warm hW⟩⟩ rfl hA hl.1 rfl (lv_room hst) hdg hf) hs (fun q _ h => h) (fun q h => h) (fun M1 t H1 locs1 ht hvm hp hB hz1 hk1 hS1 => kk M1 hp H1 locs1 ls (by subst ht; exact hB) hS1 hl)
theorem x_callSv (E : xE own cc nL D cA p s m args c) {index nA maxL mc ms : Nat} {y : MethodName} {bytes : ByteArray} {ret : Option FieldType} {rm : Room} {As : List Value} {K : Mem → Prop} (hML : xML own index y bytes maxL ret nA) (hcls : y.cls = own) (hsta : Cond.static y ∈ gtbl)
    (hM : Met l y (.code y bytes maxL ret :: gtbl) rm (va_Pc As (xB z D cA M)) (va_Qv K (xWd z D cA) (xA z)) mc ms (xA z)) (hA : As.length = nA) (hrm : rm.cells = mc ∧ rm.slots = ms) (hR : rm.frames + 1 ≤ R.frames ∧ 8 + (maxL + 11) + rm.locals ≤ R.locals) (hf : k + mc ≤ R.cells ∧ n + ms ≤ R.slots) (hst : (st.map fun v => v.category).sum ≤ 8) {stk : List Value} (hstk : stk = As.reverse ++ st) (hdg : decode cc pc = .ok (.invokestatic index, 3))
    (kk : ∀ M1, K M1 → xG p l e R s m args below meth c Q nL z D cA M1 (k + mc) (n + ms) (pc + 3) L st) : xG p l e R s m args below meth c Q nL z D cA M k n pc L stk := fun H locs ls hw hs hl => by
  obtain ⟨⟨m1, m2, m3⟩, m4⟩ := hML
  subst hstk
  have cw : CallB R s args own index y bytes maxL ret (.code y bytes maxL ret :: gtbl) rm mc ms nA ∧ (Cond.static y).before args s = true := cwS (Ts := gtbl) nA E.2.2.2.2.1 (gin_app (ws := [.methodLink own index y, .static y, .initialized own]) (fun x hx => by simp only [List.mem_cons, List.not_mem_nil, or_false] at hx; rcases hx with rfl | rfl | rfl; exact m1; exact hsta; exact hcls ▸ m2) m3) rfl hrm.1 hrm.2 ⟨hcls, m4⟩ hR
  refine va_callv (va_runS (As := As) (rest := st) ⟨E.1, E.2.1, E.2.2.1, E.2.2.2.1, E.2.2.2.2.1⟩ hM cw ⟨xB.blind, fun U hU hW => ⟨rfl, by rw [hU]; exact hw, va_K.moved hW.alike E.2.2.2.2.2.1, E.2.2.2.2.2.2.warm hW⟩⟩ rfl hA hl.1 rfl (lv_room hst) hdg hf) hs (fun q _ h => h) (fun q h => h) (fun M1 t H1 locs1 ht hvm hp hB hz1 hk1 hS1 => kk M1 hp H1 locs1 ls (by subst ht; exact hB) hS1 hl)
theorem x_callSNv (E : xE own cc nL D cA p s m args c) {index nA maxL mc ms : Nat} {host : String} {y : MethodName} {bytes : ByteArray} {ret : Option FieldType} {rm : Room} {As : List Value} {K : Mem → Prop} (hML : xMN own host index y bytes maxL ret nA) (hsta : Cond.static y ∈ gtbl)
    (hM : Met l y (.code y bytes maxL ret :: gtbl) rm (va_Pc As (xB z D cA M)) (va_Qv K (xWd z D cA) (xA z)) mc ms (xA z)) (hA : As.length = nA) (hrm : rm.cells = mc ∧ rm.slots = ms) (hR : rm.frames + 1 ≤ R.frames ∧ 8 + (maxL + 11) + rm.locals ≤ R.locals) (hf : k + mc ≤ R.cells ∧ n + ms ≤ R.slots) (hst : (st.map fun v => v.category).sum ≤ 8) {stk : List Value} (hstk : stk = As.reverse ++ st) (hdg : decode cc pc = .ok (.invokestatic index, 3))
    (kk : ∀ M1, K M1 → xG p l e R s m args below meth c Q nL z D cA M1 (k + mc) (n + ms) (pc + 3) L st) : xG p l e R s m args below meth c Q nL z D cA M k n pc L stk := fun H locs ls hw hs hl => by
  obtain ⟨⟨m1, m2, m3⟩, m4⟩ := hML
  subst hstk
  have cw : va_CN R s args own index y host bytes maxL ret (.code y bytes maxL ret :: gtbl) rm mc ms nA ∧ (Cond.static y).before args s = true ∧ True := ⟨va_cnB (Ts := gtbl) nA E.2.2.2.2.1 (gin m3) rfl hrm.1 hrm.2 (E.2.2.2.2.2.2.1 _ m1) (E.2.2.2.2.1 _ m2) m4 hR, E.2.2.2.2.1 _ hsta, trivial⟩
  refine va_callv (va_runSN (As := As) (rest := st) ⟨E.1, E.2.1, E.2.2.1, E.2.2.2.1, E.2.2.2.2.1⟩ hM cw ⟨xB.blind, fun U hU hW => ⟨rfl, by rw [hU]; exact hw, va_K.moved hW.alike E.2.2.2.2.2.1, E.2.2.2.2.2.2.warm hW⟩⟩ rfl hA hl.1 rfl (lv_room hst) hdg hf) hs (fun q _ h => h) (fun q h => h) (fun M1 t H1 locs1 ht hvm hp hB hz1 hk1 hS1 => kk M1 hp H1 locs1 ls (by subst ht; exact hB) hS1 hl)
theorem x_callVr (E : xE own cc nL D cA p s m args c) {index t N nA maxL mc ms b : Nat} {y : MethodName} {T : u_T} {bytes : ByteArray} {ret : Option FieldType} {rm : Room} {As : List Value} {K : Nat → Prop} (hML : xML own index y bytes maxL ret nA) (hinst : Cond.instanceMethod y ∈ gtbl) (hsel : Cond.selects y.cls y y ∈ gtbl) (hc : vwCl[t - 1]? = some (y.cls, T, N)) (ht : 0 < t ∧ t < 100) (hT : (M.1 b).1 = t)
    (hM : Met l y (.code y bytes maxL ret :: gtbl) rm (va_Pc (.ref b :: As) (xB z D cA M)) (va_Qr (fun u : Nat × Mem => u.2 = M ∧ K u.1) (fun u a t => a = u.1 ∧ Wd z D cA u.2 t.heap) (xA z)) mc ms (xA z)) (hA : As.length = nA) (hrm : rm.cells = mc ∧ rm.slots = ms) (hR : rm.frames + 1 ≤ R.frames ∧ 8 + (maxL + 11) + rm.locals ≤ R.locals) (hf : k + mc ≤ R.cells ∧ n + ms ≤ R.slots) (hst : (st.map fun v => v.category).sum ≤ 8) {stk : List Value} (hstk : stk = As.reverse ++ .ref b :: st) (hdg : decode cc pc = .ok (.invokevirtual index, 3))
    (kk : ∀ r, K r → xG p l e R s m args below meth c Q nL z D cA M (k + mc) (n + ms) (pc + 3) L (.ref r :: st)) : xG p l e R s m args below meth c Q nL z D cA M k n pc L stk := fun H locs ls hw hs hl => by
  obtain ⟨⟨m1, m2, m3⟩, m4⟩ := hML
  subst hstk
  have cw : CallW R s args own y.cls index y bytes maxL ret (.code y bytes maxL ret :: gtbl) rm mc ms nA := cwV (Ts := gtbl) nA E.2.2.2.2.1 (gin_app (ws := [.methodLink own index y, .instanceMethod y, .selects y.cls y y, .initialized y.cls]) (fun x hx => by simp only [List.mem_cons, List.not_mem_nil, or_false] at hx; rcases hx with rfl | rfl | rfl | rfl <;> assumption) m3) rfl hrm.1 hrm.2 ⟨rfl, m4⟩ hR
  obtain ⟨cell, q1, q2, q3, q4⟩ := hw.obj hT ht.1 ht.2 hc
  have hfc := (E.2.2.2.2.2.1.1 (t - 1) _ hc).2.1
  refine va_callr (va_runV (As := As) (rest := st) ⟨E.1, E.2.1, E.2.2.1, E.2.2.2.1, E.2.2.2.2.1⟩ hM cw ⟨xB.blind, ⟨cell, q1, by rw [q3]; rfl, by rw [q2]; exact hfc⟩, fun U hU hW => ⟨rfl, by rw [hU]; exact hw, va_K.moved hW.alike E.2.2.2.2.2.1, E.2.2.2.2.2.2.warm hW⟩⟩ rfl hA hl.1 rfl (lv_room hst) hdg hf) hs (fun q _ h => h) (fun q h => h) (fun u r t H1 locs1 ht hvm hp hB hz1 hk1 hS1 => by obtain ⟨rfl, hB⟩ := hB; obtain ⟨u1, u2⟩ := u; obtain ⟨hu, hp⟩ := hp; subst hu; exact kk _ hp H1 locs1 ls (by subst ht; exact hB) hS1 hl)
theorem x_callSr (E : xE own cc nL D cA p s m args c) {index nA maxL mc ms : Nat} {y : MethodName} {bytes : ByteArray} {ret : Option FieldType} {rm : Room} {As : List Value} {K : Nat → Prop} (hML : xML own index y bytes maxL ret nA) (hcls : y.cls = own) (hsta : Cond.static y ∈ gtbl)
    (hM : Met l y (.code y bytes maxL ret :: gtbl) rm (va_Pc As (xB z D cA M)) (va_Qr (fun u : Nat × Mem => u.2 = M ∧ K u.1) (fun u a t => a = u.1 ∧ Wd z D cA u.2 t.heap) (xA z)) mc ms (xA z)) (hA : As.length = nA) (hrm : rm.cells = mc ∧ rm.slots = ms) (hR : rm.frames + 1 ≤ R.frames ∧ 8 + (maxL + 11) + rm.locals ≤ R.locals) (hf : k + mc ≤ R.cells ∧ n + ms ≤ R.slots) (hst : (st.map fun v => v.category).sum ≤ 8) {stk : List Value} (hstk : stk = As.reverse ++ st) (hdg : decode cc pc = .ok (.invokestatic index, 3))
    (kk : ∀ r, K r → xG p l e R s m args below meth c Q nL z D cA M (k + mc) (n + ms) (pc + 3) L (.ref r :: st)) : xG p l e R s m args below meth c Q nL z D cA M k n pc L stk := fun H locs ls hw hs hl => by
  obtain ⟨⟨m1, m2, m3⟩, m4⟩ := hML
  subst hstk
  have cw : CallB R s args own index y bytes maxL ret (.code y bytes maxL ret :: gtbl) rm mc ms nA ∧ (Cond.static y).before args s = true := cwS (Ts := gtbl) nA E.2.2.2.2.1 (gin_app (ws := [.methodLink own index y, .static y, .initialized own]) (fun x hx => by simp only [List.mem_cons, List.not_mem_nil, or_false] at hx; rcases hx with rfl | rfl | rfl; exact m1; exact hsta; exact hcls ▸ m2) m3) rfl hrm.1 hrm.2 ⟨hcls, m4⟩ hR
  refine va_callr (va_runS (As := As) (rest := st) ⟨E.1, E.2.1, E.2.2.1, E.2.2.2.1, E.2.2.2.2.1⟩ hM cw ⟨xB.blind, fun U hU hW => ⟨rfl, by rw [hU]; exact hw, va_K.moved hW.alike E.2.2.2.2.2.1, E.2.2.2.2.2.2.warm hW⟩⟩ rfl hA hl.1 rfl (lv_room hst) hdg hf) hs (fun q _ h => h) (fun q h => h) (fun u r t H1 locs1 ht hvm hp hB hz1 hk1 hS1 => by obtain ⟨rfl, hB⟩ := hB; obtain ⟨u1, u2⟩ := u; obtain ⟨hu, hp⟩ := hp; subst hu; exact kk _ hp H1 locs1 ls (by subst ht; exact hB) hS1 hl)
theorem x_callSJ (E : xE own cc nL D cA p s m args c) {index nA maxL mc ms : Nat} {y : MethodName} {bytes : ByteArray} {ret : Option FieldType} {rm : Room} {As : List Value} {K : Int32 → Mem → Prop} (hML : xML own index y bytes maxL ret nA) (hsta : Cond.static y ∈ gtbl)
    (hM : Met l y (.code y bytes maxL ret :: gtbl) rm (va_Pc As (xB z D cA M)) (va_Qi K (xWd z D cA) (xA z)) mc ms (xA z)) (hA : As.length = nA) (hrm : rm.cells = mc ∧ rm.slots = ms) (hR : rm.frames + 1 ≤ R.frames ∧ 8 + (maxL + 11) + rm.locals ≤ R.locals) (hf : k + mc ≤ R.cells ∧ n + ms ≤ R.slots) (hst : (st.map fun v => v.category).sum ≤ 8) {stk : List Value} (hstk : stk = As.reverse ++ st) (hdg : decode cc pc = .ok (.invokestatic index, 3))
    (kk : ∀ r M1, K r M1 → xG p l e R s m args below meth c Q nL z D cA M1 (k + mc) (n + ms) (pc + 3) L (.int r :: st)) : xG p l e R s m args below meth c Q nL z D cA M k n pc L stk := fun H locs ls hw hs hl => by
  obtain ⟨⟨m1, m2, m3⟩, m4⟩ := hML
  subst hstk
  have cw : CallB R s args own index y bytes maxL ret (.code y bytes maxL ret :: gtbl) rm mc ms nA ∧ (Cond.static y).before args s = true := ⟨callB_of (Ts := gtbl) nA E.2.2.2.2.1 (gin m3) rfl hrm.1 hrm.2 (E.2.2.2.2.1 _ m2) (E.2.2.2.2.1 _ m1) m4 hR, E.2.2.2.2.1 _ hsta⟩
  refine va_calli (va_runS (As := As) (rest := st) ⟨E.1, E.2.1, E.2.2.1, E.2.2.2.1, E.2.2.2.2.1⟩ hM cw ⟨xB.blind, fun U hU hW => ⟨rfl, by rw [hU]; exact hw, va_K.moved hW.alike E.2.2.2.2.2.1, E.2.2.2.2.2.2.warm hW⟩⟩ rfl hA hl.1 rfl (lv_room hst) hdg hf) hs (fun q _ h => h) (fun q h => h) (fun r M1 t H1 locs1 ht hvm hp hB hz1 hk1 hS1 => kk r M1 hp H1 locs1 ls (by subst ht; exact hB) hS1 hl)
theorem x_callI (E : xE own cc nL D cA p s m args c) {index nA maxL mc ms b : Nat} {y : MethodName} {bytes : ByteArray} {rm : Room} {As : List Value} {K : Mem → Prop} (hML : xML own index y bytes maxL none nA) (hinst : Cond.instanceMethod y ∈ gtbl) (hy1 : y.name = "<init>")
    (hM : Met l y (.code y bytes maxL none :: gtbl) rm (va_Pc (.ref b :: As) (xB z D cA M)) (va_Qv K (xWd z D cA) (xA z)) mc ms (xA z)) (hA : As.length = nA) (hrm : rm.cells = mc ∧ rm.slots = ms) (hR : rm.frames + 1 ≤ R.frames ∧ 8 + (maxL + 11) + rm.locals ≤ R.locals) (hf : k + mc ≤ R.cells ∧ n + ms ≤ R.slots) (hst : (st.map fun v => v.category).sum ≤ 8) {stk : List Value} (hstk : stk = As.reverse ++ .ref b :: st) (hdg : decode cc pc = .ok (.invokespecial index, 3))
    (kk : ∀ M1, K M1 → xG p l e R s m args below meth c Q nL z D cA M1 (k + mc) (n + ms) (pc + 3) L st) : xG p l e R s m args below meth c Q nL z D cA M k n pc L stk := fun H locs ls hw hs hl => by
  obtain ⟨⟨m1, m2, m3⟩, m4⟩ := hML
  subst hstk
  have cw : CallB R s args own index y bytes maxL none (.code y bytes maxL none :: gtbl) rm mc ms nA ∧ y.name = "<init>" ∧ (Cond.instanceMethod y).before args s = true := cwI (Ts := gtbl) nA E.2.2.2.2.1 (gin m3) rfl hrm.1 hrm.2 (E.2.2.2.2.1 _ m2) (E.2.2.2.2.1 _ m1) (E.2.2.2.2.1 _ hinst) hy1 m4 hR
  refine va_callv (va_runI (As := As) (rest := st) ⟨E.1, E.2.1, E.2.2.1, E.2.2.2.1, E.2.2.2.2.1⟩ hM cw ⟨xB.blind, fun U hU hW => ⟨rfl, by rw [hU]; exact hw, va_K.moved hW.alike E.2.2.2.2.2.1, E.2.2.2.2.2.2.warm hW⟩⟩ rfl hA hl.1 rfl (lv_room hst) hdg hf) hs (fun q _ h => h) (fun q h => h) (fun M1 t H1 locs1 ht hvm hp hB hz1 hk1 hS1 => kk M1 hp H1 locs1 ls (by subst ht; exact hB) hS1 hl)
theorem x_callIN (E : xE own cc nL D cA p s m args c) {index nA maxL mc ms b : Nat} {host : String} {y : MethodName} {bytes : ByteArray} {rm : Room} {As : List Value} {K : Mem → Prop} (hML : xMN own host index y bytes maxL none nA) (hinst : Cond.instanceMethod y ∈ gtbl) (hy1 : y.name = "<init>")
    (hM : Met l y (.code y bytes maxL none :: gtbl) rm (va_Pc (.ref b :: As) (xB z D cA M)) (va_Qv K (xWd z D cA) (xA z)) mc ms (xA z)) (hA : As.length = nA) (hrm : rm.cells = mc ∧ rm.slots = ms) (hR : rm.frames + 1 ≤ R.frames ∧ 8 + (maxL + 11) + rm.locals ≤ R.locals) (hf : k + mc ≤ R.cells ∧ n + ms ≤ R.slots) (hst : (st.map fun v => v.category).sum ≤ 8) {stk : List Value} (hstk : stk = As.reverse ++ .ref b :: st) (hdg : decode cc pc = .ok (.invokespecial index, 3))
    (kk : ∀ M1, K M1 → xG p l e R s m args below meth c Q nL z D cA M1 (k + mc) (n + ms) (pc + 3) L st) : xG p l e R s m args below meth c Q nL z D cA M k n pc L stk := fun H locs ls hw hs hl => by
  obtain ⟨⟨m1, m2, m3⟩, m4⟩ := hML
  subst hstk
  have cw : va_CN R s args own index y host bytes maxL none (.code y bytes maxL none :: gtbl) rm mc ms nA ∧ y.name = "<init>" ∧ (Cond.instanceMethod y).before args s = true := ⟨va_cnB (Ts := gtbl) nA E.2.2.2.2.1 (gin m3) rfl hrm.1 hrm.2 (E.2.2.2.2.2.2.1 _ m1) (E.2.2.2.2.1 _ m2) m4 hR, hy1, E.2.2.2.2.1 _ hinst⟩
  refine va_callv (va_runIN (As := As) (rest := st) ⟨E.1, E.2.1, E.2.2.1, E.2.2.2.1, E.2.2.2.2.1⟩ hM cw ⟨xB.blind, fun U hU hW => ⟨rfl, by rw [hU]; exact hw, va_K.moved hW.alike E.2.2.2.2.2.1, E.2.2.2.2.2.2.warm hW⟩⟩ rfl hA hl.1 rfl (lv_room hst) hdg hf) hs (fun q _ h => h) (fun q h => h) (fun M1 t H1 locs1 ht hvm hp hB hz1 hk1 hS1 => kk M1 hp H1 locs1 ls (by subst ht; exact hB) hS1 hl)
theorem x_iret (E : xE own cc nL D cA p s m args c) {K : Int32 → Mem → Prop} {v : Int32} (hr : meth.sig.returnType = some .int) (hlk : meth.locks = false) (hdg : decode cc pc = .ok (.ireturn, 1)) (h : K v M) : xG p l e R s m args below meth c (MQ below (va_Qi K (xWd z D cA) (xA z)) args s k n (xA z)) nL z D cA M k n pc L [.int v] := fun H locs ls hw hs hl => W.iret E.1 E.2.1 hr (fun t ht hW => ⟨⟨v, M, rfl, h, by rw [xWd, ht]; exact hw⟩, hs.F ht⟩) hs.2.2 hdg hlk
theorem x_zret (E : xE own cc nL D cA p s m args c) {K : Int32 → Mem → Prop} {v : Int32} (hr : meth.sig.returnType = some .boolean) (hlk : meth.locks = false) (hdg : decode cc pc = .ok (.ireturn, 1)) (hz : isB v) (h : K v M) : xG p l e R s m args below meth c (MQ below (va_Qi K (xWd z D cA) (xA z)) args s k n (xA z)) nL z D cA M k n pc L [.int v] := fun H locs ls hw hs hl => W.zret E.1 E.2.1 hr hz (fun t ht hW => ⟨⟨v, M, rfl, h, by rw [xWd, ht]; exact hw⟩, hs.F ht⟩) hs.2.2 hdg hlk
theorem x_lret (E : xE own cc nL D cA p s m args c) {K : Int64 → Mem → Prop} {v : Int64} (hr : meth.sig.returnType = some .long) (hlk : meth.locks = false) (hdg : decode cc pc = .ok (.lreturn, 1)) (h : K v M) : xG p l e R s m args below meth c (MQ below (va_Ql K (xWd z D cA) (xA z)) args s k n (xA z)) nL z D cA M k n pc L [.long v] := fun H locs ls hw hs hl => W.lret E.1 E.2.1 hr (fun t ht hW => ⟨⟨v, M, rfl, h, by rw [xWd, ht]; exact hw⟩, hs.F ht⟩) hs.2.2 hdg hlk
theorem x_vret (E : xE own cc nL D cA p s m args c) {K : Mem → Prop} (hr : meth.sig.returnType = none) (hlk : meth.locks = false) (hdg : decode cc pc = .ok (.return_, 1)) (h : K M) : xG p l e R s m args below meth c (MQ below (va_Qv K (xWd z D cA) (xA z)) args s k n (xA z)) nL z D cA M k n pc L [] := fun H locs ls hw hs hl => W.vret E.1 E.2.1 hr (fun t ht hW => ⟨⟨M, rfl, h, by rw [xWd, ht]; exact hw⟩, hs.F ht⟩) hs.2.2 hdg hlk
theorem x_aret (E : xE own cc nL D cA p s m args c) {K : Nat → Prop} {a : Nat} {C : String} (hr : meth.sig.returnType = some (.object C)) (hlk : meth.locks = false) (hdg : decode cc pc = .ok (.areturn, 1)) (h : K a) : xG p l e R s m args below meth c (MQ below (va_Qr (fun u : Nat × Mem => u.2 = M ∧ K u.1) (fun u a t => a = u.1 ∧ Wd z D cA u.2 t.heap) (xA z)) args s k n (xA z)) nL z D cA M k n pc L [.ref a] := fun H locs ls hw hs hl => W.aret E.1 E.2.1 hr (Or.inl ⟨C, rfl⟩) (Or.inr ⟨a, rfl⟩) (fun t ht hW => ⟨⟨(a, M), a, rfl, ⟨rfl, h⟩, rfl, by rw [ht]; exact hw⟩, hs.F ht⟩) hs.2.2 hdg hlk
end XH
/-- a contract out of a walk from the entry -/
theorem x_met {l : Launch} {y : MethodName} {cc : ByteArray} {nL z mc ms : Nat} {ret : Option FieldType} {rm : Room} {D : va_G} {cA : Nat → ClassId} {M : Mem} {av : List Value} {L0 : List (Nat × Value)} {Qc : Array Value → State → Outcome → State → Prop} (hy : plainName y.cls = true) (hlen : (lg_sl av).length ≤ nL) (hL : lv_args 0 av = L0)
    (body : ∀ (p : Program) (e : Env) (s : State) (m : MethodId) (args : Array Value) (below : List Frame) (meth : Method) (c : Code), xE y.cls cc nL D cA p s m args c → meth.sig.returnType = ret → meth.locks = false → meth.name = y.name → xG p l e rm s m args below meth c (MQ below Qc args s mc ms (xA z)) nL z D cA M 0 0 0 L0 []) :
    Met l y (.code y cc nL ret :: gtbl) rm (va_Pc av (xB z D cA M)) Qc mc ms (xA z) := by
  refine Met.ofW (cc := cc) (maxL := nL) (ret := ret) hy rfl ?_
  intro p e s m args below meth c s₁ B hml hv
  obtain ⟨rfl, hW, hK, hN⟩ := hv
  have hts := atoms_spec (ws := .code y cc nL ret :: gtbl) B.pre
  have hE : xE y.cls cc nL D cA p s m av.toArray c := ⟨B.exec, B.bytes, hml, findClass_of_methodNamed B.named, fun w hw => hts w (List.mem_cons_of_mem _ hw), hK, hN⟩
  rw [lg_entry_eq]
  exact body p e s m av.toArray below meth c hE B.returns B.notSynchronized (name_of_methodNamed B.named B.method).1 s.heap [] _ hW va_S.rf (hL ▸ lv_entry av hlen)
