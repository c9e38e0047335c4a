section XR
variable {p : Program} {l : Launch} {e : Env} {R : Room} {s : State} {m : MethodId} {args : Array Value} {below : List Frame} {meth : Method} {c : Code} {H : Heap} {locs : List Loc} {cells slots : Nat} {Q : State → Prop}
variable {cc : ByteArray} {pc : Nat} {ls : Array Slot} {rest : List Value} {own : String} {D : va_G} {cA : Nat → ClassId} {w : xD} {b : Nat} {st : XS} {H0 : Heap}
theorem xin_lt {x : Int32} {n : Nat} (h : vp_in x n) : x.toNatClampNeg < n := Nat.not_le.mp fun q => h (Or.inr q)
theorem xiald (C : xCx p s m args c cc own D cA) (hP : xP w D cA b st H) {j a i n : Nat} (ho : xo w j a i) (hs : w.2.2.2.1 a = .inr (0, n)) {x : Int32} (hin : vp_in x n) {v : Int32} (hv : w.2.2.1 b a i x.toNatClampNeg (st a x.toNatClampNeg i) = .int v) (hdg : decode cc pc = .ok (.iaload, 1))
    (kk : W p l e R s m args below meth c H locs cells slots Q (F0 m (pc + 1) ls (.int v :: rest))) : W p l e R s m args below meth c H locs cells slots Q (F0 m pc ls (.int x :: .ref (b + j) :: rest)) :=
  W.iald (v := .int v) C.1 C.2.1 (hP.arr ho hs) ((C.2.2.2.2.1.2 0 _ rfl).1 n _) (fun q => by cases q) (by rw [arrV_size]; exact hin) (by rw [arrV_read _ _ (xin_lt hin)]; exact congrArg some hv) rfl rfl hdg kk
theorem xzald (C : xCx p s m args c cc own D cA) (hP : xP w D cA b st H) {j a i n : Nat} (ho : xo w j a i) (hs : w.2.2.2.1 a = .inr (1, n)) {x : Int32} (hin : vp_in x n) {v : Int32} (hv : w.2.2.1 b a i x.toNatClampNeg (st a x.toNatClampNeg i) = .int v) (hdg : decode cc pc = .ok (.baload, 1))
    (kk : W p l e R s m args below meth c H locs cells slots Q (F0 m (pc + 1) ls (.int v :: rest))) : W p l e R s m args below meth c H locs cells slots Q (F0 m pc ls (.int x :: .ref (b + j) :: rest)) :=
  W.zald (v := .int v) C.1 C.2.1 (hP.arr ho hs) ((C.2.2.2.2.1.2 1 _ rfl).1 n _) (fun q => by cases q) (by rw [arrV_size]; exact hin) (by rw [arrV_read _ _ (xin_lt hin)]; exact congrArg some hv) rfl rfl hdg kk
theorem xaald (C : xCx p s m args c cc own D cA) (hP : xP w D cA b st H) {j a i n t : Nat} (ho : xo w j a i) (hs : w.2.2.2.1 a = .inr (t, n)) {E : String} (ht : (xTy cA)[t]? = some (cA t, .object E)) {x : Int32} (hin : vp_in x n) {v : Nat} (hv : w.2.2.1 b a i x.toNatClampNeg (st a x.toNatClampNeg i) = .ref v) (hdg : decode cc pc = .ok (.aaload, 1))
    (kk : W p l e R s m args below meth c H locs cells slots Q (F0 m (pc + 1) ls (.ref v :: rest))) : W p l e R s m args below meth c H locs cells slots Q (F0 m pc ls (.int x :: .ref (b + j) :: rest)) :=
  W.aald (v := .ref v) (ty := .object E) C.1 C.2.1 (hP.arr ho hs) ((C.2.2.2.2.1.2 t _ ht).1 n _) rfl (fun q => by cases q) (by rw [arrV_size]; exact hin) (by rw [arrV_read _ _ (xin_lt hin)]; exact congrArg some hv) rfl rfl hdg kk
/-- the array behind a store -/
theorem xastored (hw : xinj w) (hP : xP w D cA b st H) {j a i t n : Nat} (ho : xo w j a i) (hs : w.2.2.2.1 a = .inr (t, n)) {k : Nat} {x : Int32} {v : Value} (hv : w.2.2.1 b a i k x = v) {H1 : Heap} (e1 : H1[b + j]? = some ((arrV (cA t) n (xV w b st a i)).setSlot k v)) (oq : ∀ q, q ≠ b + j → H1[q]? = H[q]?) : xP w D cA b (xu st a k i x) H1 := by
  refine hP.put hw ho ?_ oq
  obtain ⟨h1, rfl, rfl⟩ := ho
  unfold xat
  rw [hs]
  show H1[b + j]? = some (arrV (cA t) n _)
  rw [e1, arrV_store]
  congr 2
  funext q
  unfold updV
  show _ = w.2.2.1 b (w.1 j) (w.2.1 j) q (xu st (w.1 j) k (w.2.1 j) x (w.1 j) q (w.2.1 j))
  by_cases hq : q = k
  · subst hq
    rw [if_pos rfl, xu_s]
    exact hv.symm
  · rw [if_neg hq, xu_n (by rintro ⟨-, h, -⟩; exact hq h)]
theorem xiast (hw : xinj w) (C : xCx p s m args c cc own D cA) (hP : xP w D cA b st H) (hS : va_S (xA w b) H0 H locs) {j a i n : Nat} (ho : xo w j a i) (hs : w.2.2.2.1 a = .inr (0, n)) {x v : Int32} (hin : vp_in x n) (hv : w.2.2.1 b a i x.toNatClampNeg v = .int v) (hdg : decode cc pc = .ok (.iastore, 1))
    (kk : ∀ (H1 : Heap) (locs1 : List Loc), xP w D cA b (xu st a x.toNatClampNeg i v) H1 → va_S (xA w b) H0 H1 locs1 → W p l e R s m args below meth c H1 locs1 cells slots Q (F0 m (pc + 1) ls rest)) : W p l e R s m args below meth c H locs cells slots Q (F0 m pc ls (.int v :: .int x :: .ref (b + j) :: rest)) :=
  W.iast C.1 C.2.1 (hP.arr ho hs) ((C.2.2.2.2.1.2 0 _ rfl).1 n _) (fun q => by cases q) (by rw [arrV_size]; exact hin) rfl rfl hdg fun H1 e1 z oq => kk H1 _ (xastored hw hP ho hs hv e1 oq) (hS.put z oq ho.A)
theorem xzast (hw : xinj w) (C : xCx p s m args c cc own D cA) (hP : xP w D cA b st H) (hS : va_S (xA w b) H0 H locs) {j a i n : Nat} (ho : xo w j a i) (hs : w.2.2.2.1 a = .inr (1, n)) {x v : Int32} (hin : vp_in x n) (hv : w.2.2.1 b a i x.toNatClampNeg v = .int (bz v)) (hdg : decode cc pc = .ok (.bastore, 1))
    (kk : ∀ (H1 : Heap) (locs1 : List Loc), xP w D cA b (xu st a x.toNatClampNeg i v) H1 → va_S (xA w b) H0 H1 locs1 → W p l e R s m args below meth c H1 locs1 cells slots Q (F0 m (pc + 1) ls rest)) : W p l e R s m args below meth c H locs cells slots Q (F0 m pc ls (.int v :: .int x :: .ref (b + j) :: rest)) :=
  W.zast C.1 C.2.1 (hP.arr ho hs) ((C.2.2.2.2.1.2 1 _ rfl).1 n _) (fun q => by cases q) (by rw [arrV_size]; exact hin) rfl rfl hdg fun H1 e1 z oq => kk H1 _ (xastored hw hP ho hs hv e1 oq) (hS.put z oq ho.A)
/-! contracts over a flat world: nothing is made, nothing outside is changed -/
def xPre (w : xD) (D : va_G) (cA : Nat → ClassId) (b : Nat) (st : XS) (U : State) : Prop := xP w D cA b st U.heap ∧ va_K D xCl (xTy cA) U ∧ KN U
def xMi (w : xD) (D : va_G) (cA : Nat → ClassId) (b : Nat) (l : Launch) (y : MethodName) (cw : Cond) (rm : Room) (st : XS) (av : List Value) (r : Int32) (st' : XS) : Prop :=
  Met l y (cw :: wsG) rm (va_Pc av (xPre w D cA b st)) (va_Qi (fun r' u => r' = r ∧ u = st') (fun u t => xP w D cA b u t.heap) (xA w b)) 0 0 (xA w b)
def xMv (w : xD) (D : va_G) (cA : Nat → ClassId) (b : Nat) (l : Launch) (y : MethodName) (cw : Cond) (rm : Room) (st : XS) (av : List Value) (st' : XS) : Prop :=
  Met l y (cw :: wsG) rm (va_Pc av (xPre w D cA b st)) (va_Qv (fun u => u = st') (fun u t => xP w D cA b u t.heap) (xA w b)) 0 0 (xA w b)
/-- the end of a body that gives an int, of a void one -/
abbrev xEi (w : xD) (D : va_G) (cA : Nat → ClassId) (b : Nat) (below : List Frame) (args : Array Value) (s : State) (r : Int32) (st' : XS) : State → Prop := MQ below (va_Qi (fun r' u => r' = r ∧ u = st') (fun u t => xP w D cA b u t.heap) (xA w b)) args s 0 0 (xA w b)
abbrev xEv (w : xD) (D : va_G) (cA : Nat → ClassId) (b : Nat) (below : List Frame) (args : Array Value) (s : State) (st' : XS) : State → Prop := MQ below (va_Qv (fun u => u = st') (fun u t => xP w D cA b u t.heap) (xA w b)) args s 0 0 (xA w b)
theorem xMi_of {y : MethodName} {cw : Cond} {rm : Room} {av : List Value} {r : Int32} {st' : XS} {nL : Nat} {ty : FieldType} (hw : cw = Cond.code y cc nL (some ty)) (hy : plainName y.cls = true) (hn : (lg_sl av).length ≤ nL)
    (body : ∀ (p : Program) (e : Env) (s : State) (m : MethodId) (below : List Frame) (meth : Method) (c : Code) (ls : Array Slot), xCx p s m av.toArray c cc y.cls D cA → meth.locks = false → meth.sig.returnType = some ty → c.maxLocals = nL → lv_has ls nL (lv_args 0 av) → xP w D cA b st s.heap → va_S (xA w b) s.heap s.heap [] →
      W p l e rm s m av.toArray below meth c s.heap [] 0 0 (xEi w D cA b below av.toArray s r st') (F0 m 0 ls [])) : xMi w D cA b l y cw rm st av r st' := by
  subst hw
  refine Met.ofW (cc := cc) (maxL := nL) (ret := some ty) hy rfl ?_
  intro p e s m args below meth c s₁ B hml hv
  obtain ⟨rfl, hP, hK, hN⟩ := hv
  have hts := atoms_spec (ws := Cond.code y cc nL (some ty) :: wsG) B.pre
  have hl := lv_entry av (n := nL) hn
  rw [lg_entry_eq]
  exact body p e s m below meth c _ ⟨B.exec, B.bytes, findClass_of_methodNamed B.named, fun w hw => hts w (List.mem_cons_of_mem _ hw), hK, hN⟩ B.notSynchronized B.returns hml hl hP va_S.rf
theorem xMv_of {y : MethodName} {cw : Cond} {rm : Room} {av : List Value} {st' : XS} {nL : Nat} (hw : cw = Cond.code y cc nL none) (hy : plainName y.cls = true) (hn : (lg_sl av).length ≤ nL)
    (body : ∀ (p : Program) (e : Env) (s : State) (m : MethodId) (below : List Frame) (meth : Method) (c : Code) (ls : Array Slot), xCx p s m av.toArray c cc y.cls D cA → meth.locks = false → meth.sig.returnType = none → c.maxLocals = nL → lv_has ls nL (lv_args 0 av) → xP w D cA b st s.heap → va_S (xA w b) s.heap s.heap [] →
      W p l e rm s m av.toArray below meth c s.heap [] 0 0 (xEv w D cA b below av.toArray s st') (F0 m 0 ls [])) : xMv w D cA b l y cw rm st av st' := by
  subst hw
  refine Met.ofW (cc := cc) (maxL := nL) (ret := none) hy rfl ?_
  intro p e s m args below meth c s₁ B hml hv
  obtain ⟨rfl, hP, hK, hN⟩ := hv
  have hts := atoms_spec (ws := Cond.code y cc nL none :: wsG) B.pre
  have hl := lv_entry av (n := nL) hn
  rw [lg_entry_eq]
  exact body p e s m below meth c _ ⟨B.exec, B.bytes, findClass_of_methodNamed B.named, fun w hw => hts w (List.mem_cons_of_mem _ hw), hK, hN⟩ B.notSynchronized B.returns hml hl hP va_S.rf
theorem xri {r r' : Int32} {st' u : XS} (C : xCx p s m args c cc own D cA) (hlk : meth.locks = false) (hr : meth.sig.returnType = some .int) (hP : xP w D cA b u H) (hS : va_S (xA w b) s.heap H locs) (hd : decode cc pc = .ok (.ireturn, 1)) (he : r' = r ∧ u = st') : W p l e R s m args below meth c H locs 0 0 (xEi w D cA b below args s r st') (F0 m pc ls [.int r']) :=
  W.iret C.1 C.2.1 hr (fun t ht _ => ⟨⟨r', u, rfl, he, by show xP w D cA b u t.heap; rw [ht]; exact hP⟩, hS.F ht⟩) hS.2.2 hd hlk
theorem xrz {r r' : Int32} {st' u : XS} (C : xCx p s m args c cc own D cA) (hlk : meth.locks = false) (hr : meth.sig.returnType = some .boolean) (hz : bz r' = r') (hP : xP w D cA b u H) (hS : va_S (xA w b) s.heap H locs) (hd : decode cc pc = .ok (.ireturn, 1)) (he : r' = r ∧ u = st') : W p l e R s m args below meth c H locs 0 0 (xEi w D cA b below args s r st') (F0 m pc ls [.int r']) :=
  W.zret C.1 C.2.1 hr (bz_nar hz) (fun t ht _ => ⟨⟨r', u, rfl, he, by show xP w D cA b u t.heap; rw [ht]; exact hP⟩, hS.F ht⟩) hS.2.2 hd hlk
theorem xrv {st' u : XS} (C : xCx p s m args c cc own D cA) (hlk : meth.locks = false) (hr : meth.sig.returnType = none) (hP : xP w D cA b u H) (hS : va_S (xA w b) s.heap H locs) (hd : decode cc pc = .ok (.return_, 1)) (he : u = st') : W p l e R s m args below meth c H locs 0 0 (xEv w D cA b below args s st') (F0 m pc ls []) :=
  W.vret C.1 C.2.1 hr (fun t ht _ => ⟨⟨u, rfl, he, by show xP w D cA b u t.heap; rw [ht]; exact hP⟩, hS.F ht⟩) hS.2.2 hd hlk
/-! calls: what the tables say of a callee -/
theorem xPre.blind {av : List Value} : FrameBlind (va_Pc av (xPre w D cA b st)) := by
  intro a U g mk q
  obtain ⟨q0, q1, q2, q3⟩ := q
  exact ⟨q0, q1, va_K.moved (u := U) (U := U.calling g mk a) (Vm.Alike.refl U.vm) q2, KN.same (u := U) (U := U.calling g mk a) rfl q3⟩
theorem xPre.at {av : List Value} (C : xCx p s m args c cc own D cA) (hP : xP w D cA b st H) : ∀ U : State, U.heap = H → s.WarmedH U.vm → va_Pc av (xPre w D cA b st) av.toArray U :=
  fun U hU hW => ⟨rfl, by rw [hU]; exact hP, va_K.moved hW.alike C.2.2.2.2.1, KN.moved hW C.2.2.2.2.2⟩
theorem xgood {cw cw' : Cond} (hc : cw' ∈ wsG) : GoodIn (cw :: wsG) (cw' :: wsG) := by
  intro x hx
  have h : x ∈ wsG := (List.mem_cons.mp hx).elim (fun e => e ▸ hc) id
  exact ⟨List.mem_cons_of_mem _ h, good_of_word (List.mem_filter.mp h).2⟩
theorem xgood' {cw' : Cond} (hc : cw' ∈ wsG) : GoodIn wsG (cw' :: wsG) := by
  intro x hx
  have h : x ∈ wsG := (List.mem_cons.mp hx).elim (fun e => e ▸ hc) id
  exact ⟨h, good_of_word (List.mem_filter.mp h).2⟩
/-- a callee: its code word, its descriptor -/
def xY (y : MethodName) (bytes : ByteArray) (maxL : Nat) (ret : Option FieldType) (n : Nat) : Prop := Cond.code y bytes maxL ret ∈ wsG ∧ Cond.initialized y.cls ∈ wsG ∧ (y.cls ≠ "java/lang/invoke/MethodHandle" ∧ y.cls ≠ "java/lang/invoke/VarHandle" ∧ (parseMethodDescriptor y.desc).map (fun d => d.parameters.length) = some n)
theorem xcallB {y : MethodName} {bytes : ByteArray} {maxL n idx : Nat} {ret : Option FieldType} {rm : Room} (C : xCx p s m args c cc own D cA) (hY : xY y bytes maxL ret n) (h0 : rm.cells = 0) (h1 : rm.slots = 0) (hl : Cond.methodLink own idx y ∈ wsG) (hR : rm.frames + 1 ≤ R.frames ∧ 8 + (maxL + 11) + rm.locals ≤ R.locals) : CallB R s args own idx y bytes maxL ret (Cond.code y bytes maxL ret :: wsG) rm 0 0 n :=
  callB_of (Ts := wsG) n C.2.2.2.1 (xgood' hY.1) rfl h0 h1 (C.2.2.2.1 _ hY.2.1) (C.2.2.2.1 _ hl) hY.2.2 hR
theorem xcallN {y : MethodName} {bytes : ByteArray} {maxL n idx : Nat} {ret : Option FieldType} {rm : Room} (C : xCx p s m args c cc own D cA) (hY : xY y bytes maxL ret n) (h0 : rm.cells = 0) (h1 : rm.slots = 0) (hl : Cond.methodLinkNest own idx y "BedsideNet" ∈ tables_1) (hR : rm.frames + 1 ≤ R.frames ∧ 8 + (maxL + 11) + rm.locals ≤ R.locals) : va_CN R s args own idx y "BedsideNet" bytes maxL ret (Cond.code y bytes maxL ret :: wsG) rm 0 0 n :=
  va_cnB (Ts := wsG) n C.2.2.2.1 (xgood' hY.1) rfl h0 h1 (C.2.2.2.2.2 _ hl rfl) (C.2.2.2.1 _ hY.2.1) hY.2.2 hR
theorem xrecv (C : xCx p s m args c cc own D cA) (hP : xP w D cA b st H) {j a i ci : Nat} (ho : xo w j a i) (hs : w.2.2.2.1 a = .inl ci) {Cn : String} {T : u_T} {N : Nat} {ty : Nat → FieldType} (hc : xcl ci Cn T N ty) : ∃ cell : Cell, H[b + j]? = some cell ∧ cell.vm.isStatics = false ∧ s.vm.findClass Cn = some cell.cls := by
  obtain ⟨r, h1, cell, q1, q2, q3, q4⟩ := hP.obj ho hs
  cases Option.some.inj (h1.symm.trans hc.1)
  obtain ⟨hS, hfc, kC, hkC, hkind⟩ := C.2.2.2.2.1.1 ci _ hc.1
  exact ⟨cell, q1, by rw [q3]; rfl, by rw [q2]; exact hfc⟩
end XR
section XZ
variable {p : Program} {l : Launch} {e : Env} {R : Room} {s : State} {m : MethodId} {args : Array Value} {below : List Frame} {meth : Method} {c : Code} {H : Heap} {locs : List Loc} {cells slots : Nat} {Q : State → Prop}
variable {cc : ByteArray} {pc : Nat} {ls : Array Slot} {rest : List Value} {own : String} {D : va_G} {cA : Nat → ClassId} {w : xD} {b : Nat} {st : XS} {H0 : Heap}
theorem xputz (hw : xinj w) (C : xCx p s m args c cc own D cA) (hP : xP w D cA b st H) (hS0 : va_S (xA w b) H0 H locs) {j a i ci : Nat} (ho : xo w j a i) (hs : w.2.2.2.1 a = .inl ci) {Cn : String} {T : u_T} {N : Nat} {ty : Nat → FieldType} (hc : xcl ci Cn T N ty) {k idx : Nat} (hk : k < N) (hl : Cond.fieldLink own idx (T k).1 (T k).2.1 (T k).2.2.1 ∈ wsG) (hfin : (T k).2.2.2 = false) {x : Int32} (hz : bz x = x) (hv : w.2.2.1 b a i k x = .int (bz x)) (hty : ty k = .boolean) (hdg : decode cc pc = .ok (.putfield idx, 3))
    (kk : ∀ (H1 : Heap) (locs1 : List Loc), xP w D cA b (xu st a k i x) H1 → va_S (xA w b) H0 H1 locs1 → W p l e R s m args below meth c H1 locs1 cells slots Q (F0 m (pc + 3) ls rest)) : W p l e R s m args below meth c H locs cells slots Q (F0 m pc ls (.int x :: .ref (b + j) :: rest)) :=
  xput hw C hP hS0 ho hs hc hk hl hfin (hv.trans (congrArg _ hz)) (by rw [hty]; exact bz_nar hz) (by rw [hty]; exact bz_fit hz) hdg kk
theorem xputNz (hw : xinj w) (C : xCx p s m args c cc own D cA) (hP : xP w D cA b st H) (hS0 : va_S (xA w b) H0 H locs) {j a i ci : Nat} (ho : xo w j a i) (hs : w.2.2.2.1 a = .inl ci) {Cn : String} {T : u_T} {N : Nat} {ty : Nat → FieldType} (hc : xcl ci Cn T N ty) {k idx : Nat} (hk : k < N) (hl : Cond.fieldLinkNest own idx (T k).1 (T k).2.1 (T k).2.2.1 "BedsideNet" ∈ tables_1) (hfin : (T k).2.2.2 = false) {x : Int32} (hz : bz x = x) (hv : w.2.2.1 b a i k x = .int (bz x)) (hty : ty k = .boolean) (hdg : decode cc pc = .ok (.putfield idx, 3))
    (kk : ∀ (H1 : Heap) (locs1 : List Loc), xP w D cA b (xu st a k i x) H1 → va_S (xA w b) H0 H1 locs1 → W p l e R s m args below meth c H1 locs1 cells slots Q (F0 m (pc + 3) ls rest)) : W p l e R s m args below meth c H locs cells slots Q (F0 m pc ls (.int x :: .ref (b + j) :: rest)) :=
  xputN hw C hP hS0 ho hs hc hk hl hfin (hv.trans (congrArg _ hz)) (by rw [hty]; exact bz_nar hz) (by rw [hty]; exact bz_fit hz) hdg kk
end XZ
