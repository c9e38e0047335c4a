/-! constructors: rows over single cells -/
def KA (U : State) : Prop := va_AO R_DE U ∧ va_AO R_DI U ∧ va_AO R_OR U ∧ va_AO R_ME U ∧ va_AO R_CH U
theorem KA.moved {u U : State} (hvm : u.vm.Alike U.vm) (h : KA u) : KA U := ⟨h.1.moved hvm, h.2.1.moved hvm, h.2.2.1.moved hvm, h.2.2.2.1.moved hvm, h.2.2.2.2.moved hvm⟩
def xob (D : va_G) (ci : Nat) (a : Nat) (V : Nat → Value) (H : Heap) : Prop := ∃ r : vw_C, xCl[ci]? = some r ∧ t_OB a (D.1 ci) r.2.2 (D.2 ci) H V
def xar (cA : Nat → ClassId) (t n a : Nat) (f : Nat → Value) (H : Heap) : Prop := H[a]? = some (arrV (cA t) n f)
theorem xob.kept {D : va_G} {ci a : Nat} {V : Nat → Value} {H H1 : Heap} (h : xob D ci a V H) (h1 : H1[a]? = H[a]?) : xob D ci a V H1 := by
  obtain ⟨r, q1, q2⟩ := h
  exact ⟨r, q1, q2.kept h1⟩
theorem xar.kept {cA : Nat → ClassId} {t n a : Nat} {f : Nat → Value} {H H1 : Heap} (h : xar cA t n a f H) (h1 : H1[a]? = H[a]?) : xar cA t n a f H1 := h1.trans h
theorem xob.lt {D : va_G} {ci a : Nat} {V : Nat → Value} {H : Heap} (h : xob D ci a V H) : a < H.size := by
  obtain ⟨r, q1, c, q2, -⟩ := h
  exact (Array.getElem?_eq_some_iff.mp q2).1
theorem xar.lt {cA : Nat → ClassId} {t n a : Nat} {f : Nat → Value} {H : Heap} (h : xar cA t n a f H) : a < H.size := (Array.getElem?_eq_some_iff.mp h).1
theorem xob.to {D : va_G} {ci a : Nat} {V V' : Nat → Value} {H : Heap} (h : xob D ci a V H) (hv : ∀ k, V k = V' k) : xob D ci a V' H := by
  obtain ⟨r, q1, q2⟩ := h
  exact ⟨r, q1, q2.to (fun k _ => hv k)⟩
section CRW
variable {p : Program} {l : Launch} {e : Env} {R : Room} {s : State} {m : MethodId} {args : Array Value} {below : List Frame} {meth : Method} {c : Code} {H : Heap} {locs : List Loc} {cells slots : Nat} {Q : State → Prop}
variable {cc : ByteArray} {pc : Nat} {ls : Array Slot} {rest st0 : List Value} {own : String} {D : va_G} {cA : Nat → ClassId} {H0 : Heap} {A : Nat → Prop}
theorem ynew (C : xCx p s m args c cc own D cA) {Cn : String} {T : u_T} {N ci index h : Nat} {ty : Nat → FieldType} {V : Nat → Value} (hc : xcl ci Cn T N ty) (hcl : Cond.classLink own index Cn ∈ wsG) (hins : Cond.instantiable Cn N ∈ wsG) (hini : Cond.initialized Cn ∈ wsG) (hh : H.size = h) (hV : ∀ k, k < N → defaultValue (ty k) = V k) (hcells : cells + 1 ≤ R.cells) (hslots : slots + N ≤ R.slots) (hS : va_S A H0 H locs) (hdg : decode cc pc = .ok (.new index, 3))
    (kk : ∀ H1 : Heap, xob D ci h V H1 → H1.size = h + 1 → (∀ q, q < h → H1[q]? = H[q]?) → va_S A H0 H1 locs → W p l e R s m args below meth c H1 locs (cells + 1) (slots + N) Q (F0 m (pc + 3) ls (.ref h :: rest))) : W p l e R s m args below meth c H locs cells slots Q (F0 m pc ls rest) := by
  have hKn := C.2.2.2.2.1.1 ci _ hc.1
  refine W.newcK C.1 C.2.1 C.2.2.1 (C.2.2.2.1 _ hcl) (C.2.2.2.1 _ hins) (C.2.2.2.1 _ hini) rfl hdg hcells hslots hKn.2.1 hh fun H1 kC hkC e1 z1 o1 => ?_
  exact kk H1 ⟨_, hc.1, (u_born ty C.2.2.2.1 hc.2.1 hKn hkC e1 hc.2.2.1).to hV⟩ z1 o1 ⟨by have := hS.1; omega, fun x h1 h2 => (o1 x (by have := hS.1; omega)).trans (hS.2.1 x h1 h2), hS.2.2⟩
theorem yput (C : xCx p s m args c cc own D cA) {Cn : String} {T : u_T} {N ci index a k : Nat} {ty : Nat → FieldType} {V : Nat → Value} {v : Value} (hc : xcl ci Cn T N ty) (hob : xob D ci a V H) (hk : k < N) (hlink : Cond.fieldLink own index (T k).1 (T k).2.1 (T k).2.2.1 ∈ wsG) (hfin : (T k).2.2.2 = false) (hn : narrow (ty k) v = v) (hfit : fits (ty k) v = true) (hS : va_S A H0 H locs) (ha : A a) (hdg : decode cc pc = .ok (.putfield index, 3))
    (kk : ∀ (H1 : Heap) (locs1 : List Loc), xob D ci a (updV V k v) H1 → H1.size = H.size → (∀ q, q ≠ a → H1[q]? = H[q]?) → va_S A H0 H1 locs1 → W p l e R s m args below meth c H1 locs1 cells slots Q (F0 m (pc + 3) ls rest)) : W p l e R s m args below meth c H locs cells slots Q (F0 m pc ls (v :: .ref a :: rest)) := by
  have hap := va_apart (own := own) C.2.2.2.1 hc.2.1 ty hc.2.2.1 hc.2.2.2 C.2.2.2.2.1 hc.1
  obtain ⟨r, h1, cell, q1, q2, q3, q4⟩ := hob
  have hr : r = (Cn, T, N) := Option.some.inj (h1.symm.trans hc.1)
  subst hr
  obtain ⟨hSl, hfc, kC, hkC, hkind⟩ := C.2.2.2.2.1.1 ci _ hc.1
  obtain ⟨cf, kf, fi, f, hi, hsl⟩ := hSl k hk
  have hlay := C.2.2.2.1 _ (hc.2.1 _ (u_in_lay hk))
  unfold u_lay at hlay
  rw [if_neg (by rw [hfin]; decide)] at hlay
  have hst := (u_facts hfc hkC (u_lays C.2.2.2.1 hc.2.1 hk) hi).1
  have h6 := u_store hfc hkC hkind hlay hi (hc.2.2.1 k hk) hn hfit
  refine W.putK C.1 C.2.1 (f := f) ⟨C.2.2.1, C.2.2.2.1 _ hlink, ⟨_, _, _, hi⟩, hst⟩ (by rw [q2]; exact h6) q1 q3 (by rw [hsl]; exact k2_hasslot (q4 k hk)) rfl rfl hdg fun H' e1 e2 e3 => ?_
  rw [hsl] at e1 ⊢
  exact kk H' _ ⟨_, hc.1, _, e1, q2, q3, t_set q4 hap hk v⟩ e2 e3 (hS.put e2 e3 ha)
theorem yputF (C : xCx p s m args c cc own D cA) (hin2 : meth.name = "<init>") {T : u_T} {N ci index a k : Nat} {ty : Nat → FieldType} {V : Nat → Value} {v : Value} (hc : xcl ci own T N ty) (hob : xob D ci a V H) (hk : k < N) (hlink : Cond.fieldLink own index (T k).1 (T k).2.1 (T k).2.2.1 ∈ wsG) (hfin : (T k).2.2.2 = true) (hdecl : (T k).1 = own) (hn : narrow (ty k) v = v) (hfit : fits (ty k) v = true) (hS : va_S A H0 H locs) (ha : A a) (hdg : decode cc pc = .ok (.putfield index, 3))
    (kk : ∀ (H1 : Heap) (locs1 : List Loc), xob D ci a (updV V k v) H1 → H1.size = H.size → (∀ q, q ≠ a → H1[q]? = H[q]?) → va_S A H0 H1 locs1 → W p l e R s m args below meth c H1 locs1 cells slots Q (F0 m (pc + 3) ls rest)) : W p l e R s m args below meth c H locs cells slots Q (F0 m pc ls (v :: .ref a :: rest)) := by
  have hap := va_apart (own := own) C.2.2.2.1 hc.2.1 ty hc.2.2.1 hc.2.2.2 C.2.2.2.2.1 hc.1
  obtain ⟨r, h1, cell, q1, q2, q3, q4⟩ := hob
  have hr : r = (own, T, N) := Option.some.inj (h1.symm.trans hc.1)
  subst hr
  obtain ⟨hSl, hfc, kC, hkC, hkind⟩ := C.2.2.2.2.1.1 ci _ hc.1
  obtain ⟨cf, kf, fi, f, hi, hsl⟩ := hSl k hk
  have hlay := C.2.2.2.1 _ (hc.2.1 _ (u_in_lay hk))
  unfold u_lay at hlay
  rw [if_pos hfin] at hlay
  have hst := (u_facts hfc hkC (u_lays C.2.2.2.1 hc.2.1 hk) hi).1
  have hcf : m.cls = cf := by
    obtain ⟨_, _, c', _, _, _, -, -, hf', -, -, -, hown2, -⟩ := Cond.laysFinal_spec hlay
    have e1 : c' = cf := by have := hi.symm.trans hf'; simp at this; exact this.1.symm
    rw [hdecl] at hown2
    rw [← e1]; exact Option.some.inj (C.2.2.1.symm.trans hown2)
  have h6 := u_fits hfc hkC hkind (Or.inr hlay) hi (hc.2.2.1 k hk) hn hfit
  refine W.putFinK C.1 C.2.1 C.2.2.1 (C.2.2.2.1 _ hlink) hi hst hcf hin2 (by rw [q2]; exact h6) q1 q3 (by rw [hsl]; exact k2_hasslot (q4 k hk)) rfl rfl hdg fun H' e1 e2 e3 => ?_
  rw [hsl] at e1 ⊢
  exact kk H' _ ⟨_, hc.1, _, e1, q2, q3, t_set q4 hap hk v⟩ e2 e3 (hS.put e2 e3 ha)
theorem yget (C : xCx p s m args c cc own D cA) {Cn : String} {T : u_T} {N ci index a k : Nat} {ty : Nat → FieldType} {V : Nat → Value} {v : Value} (hc : xcl ci Cn T N ty) (hob : xob D ci a V H) (hk : k < N) (hlink : Cond.fieldLink own index (T k).1 (T k).2.1 (T k).2.2.1 ∈ wsG) (hv : V k = v) (hdg : decode cc pc = .ok (.getfield index, 3))
    (kk : W p l e R s m args below meth c H locs cells slots Q (F0 m (pc + 3) ls (v :: rest))) : W p l e R s m args below meth c H locs cells slots Q (F0 m pc ls (.ref a :: rest)) := by
  obtain ⟨r, h1, cell, q1, q2, q3, q4⟩ := hob
  cases Option.some.inj (h1.symm.trans hc.1)
  obtain ⟨hS, hfc, kC, hkC, hkind⟩ := C.2.2.2.2.1.1 ci _ hc.1
  obtain ⟨cf, kf, fi, f, hi, hsl⟩ := hS k hk
  refine W.getf C.1 C.2.1 C.2.2.1 (C.2.2.2.1 _ hlink) hi (u_facts hfc hkC (u_lays C.2.2.2.1 hc.2.1 hk) hi).1 q1 (by rw [q3]; exact fun h => by cases h) (v := v) ?_ rfl rfl hdg kk
  rw [hsl, ← hv]
  exact q4 k hk
theorem yanew (C : xCx p s m args c cc own D cA) {E : String} {index h t N : Nat} {n : Int32} (ht : (xTy cA)[t]? = some (cA t, .object E)) (hcl : Cond.classLink own index E ∈ wsG) (hover : va_AO E s) (hh : H.size = h) (hn : ¬ n < 0) (hN : n.toNatClampNeg = N) (hby : N * 4 ≤ 536870912) (hcells : cells + 1 ≤ R.cells) (hslots : slots + N ≤ R.slots) (hS : va_S A H0 H locs) (hdg : decode cc pc = .ok (.anewarray index, 3))
    (kk : ∀ H1 : Heap, xar cA t N h (fun _ => .null) H1 → H1.size = h + 1 → (∀ q, q < h → H1[q]? = H[q]?) → va_S A H0 H1 locs → W p l e R s m args below meth c H1 locs (cells + 1) (slots + N) Q (F0 m (pc + 3) ls (.ref h :: rest))) : W p l e R s m args below meth c H locs cells slots Q (F0 m pc ls (.int n :: rest)) := by
  subst hN
  subst hh
  refine W.anew C.1 C.2.1 C.2.2.1 (C.2.2.2.1 _ hcl) hover.use rfl hdg rfl hn hby hcells hslots fun cB kA comp h1 h2 h3 h4 => ?_
  obtain ⟨kA', comp', k1, k2, k3, k4⟩ := (C.2.2.2.2.1.2 t _ ht).2
  cases Option.some.inj (k4.symm.trans h1)
  refine kk _ ?_ ?_ ?_ ?_
  · unfold xar
    rw [← arrV_new]; simp
  · simp
  · intro q hq
    rw [Array.getElem?_push, if_neg (Nat.ne_of_lt hq)]
  · refine ⟨by have := hS.1; simp; omega, fun x h1 h2 => ?_, hS.2.2⟩
    rw [Array.getElem?_push, if_neg (by have := hS.1; omega)]
    exact hS.2.1 x h1 h2
theorem ynewa (C : xCx p s m args c cc own D cA) {atype : ArrayType} {ty : FieldType} {h t N : Nat} {n : Int32} (harr : Cond.arrayClass (newarray.typeOf atype) ∈ wsG) (hty : newarray.typeOf atype = ty) (hno : ∀ C, ty ≠ .object C) (ht : (xTy cA)[t]? = some (cA t, ty)) (hh : H.size = h) (hn : ¬ n < 0) (hN : n.toNatClampNeg = N) (hby : N * componentBytes (newarray.typeOf atype) ≤ 536870912) (hcells : cells + 1 ≤ R.cells) (hslots : slots + N ≤ R.slots) (hS : va_S A H0 H locs) (hdg : decode cc pc = .ok (.newarray atype, 2))
    (kk : ∀ H1 : Heap, xar cA t N h (fun _ => defaultValue ty) H1 → H1.size = h + 1 → (∀ q, q < h → H1[q]? = H[q]?) → va_S A H0 H1 locs → W p l e R s m args below meth c H1 locs (cells + 1) (slots + N) Q (F0 m (pc + 2) ls (.ref h :: rest))) : W p l e R s m args below meth c H locs cells slots Q (F0 m pc ls (.int n :: rest)) := by
  subst hN
  subst hh
  subst hty
  refine W.newa C.1 C.2.1 (C.2.2.2.1 _ harr) rfl hdg rfl hn hby hcells hslots fun cB kA comp h1 h2 h3 => ?_
  have k4 : s.vm.findClass ("[" ++ (newarray.typeOf atype).toString) = some (cA t) := by
    have k := (C.2.2.2.2.1.2 t _ ht).2
    unfold va_RA at k
    generalize newarray.typeOf atype = ty at hno k ⊢
    cases ty with
    | object C => exact absurd rfl (hno C)
    | _ => exact k
  cases Option.some.inj (k4.symm.trans h1)
  refine kk _ ?_ ?_ ?_ ?_
  · unfold xar
    rw [← arrV_new]; simp
  · simp
  · intro q hq
    rw [Array.getElem?_push, if_neg (Nat.ne_of_lt hq)]
  · refine ⟨by have := hS.1; simp; omega, fun x h1 h2 => ?_, hS.2.2⟩
    rw [Array.getElem?_push, if_neg (by have := hS.1; omega)]
    exact hS.2.1 x h1 h2
theorem yaast (C : xCx p s m args c cc own D cA) {Cn : String} {T : u_T} {N ci a v t n : Nat} {ty : Nat → FieldType} {V f : Nat → Value} {i : Int32} (hc : xcl ci Cn T N ty) (hv : xob D ci v V H) (ht : (xTy cA)[t]? = some (cA t, .object Cn)) (har : xar cA t n a f H) (hin : vp_in i n) (hS : va_S A H0 H locs) (ha : A a) (hdg : decode cc pc = .ok (.aastore, 1))
    (kk : ∀ (H1 : Heap) (locs1 : List Loc), xar cA t n a (updV f i.toNatClampNeg (.ref v)) H1 → H1.size = H.size → (∀ q, q ≠ a → H1[q]? = H[q]?) → va_S A H0 H1 locs1 → W p l e R s m args below meth c H1 locs1 cells slots Q (F0 m (pc + 1) ls rest)) : W p l e R s m args below meth c H locs cells slots Q (F0 m pc ls (.ref v :: .int i :: .ref a :: rest)) := by
  have hlt : i.toNatClampNeg < n := Nat.not_le.mp fun q => hin (Or.inr q)
  have h0 : ¬ i < 0 := fun q => hin (Or.inl q)
  obtain ⟨r', hr', cellV, g1, g2, g3, -⟩ := hv
  have hcls := (C.2.2.2.2.1.1 ci _ hc.1).2
  obtain ⟨kA, comp, k1, k2, k3, -⟩ := (C.2.2.2.2.1.2 t _ ht).2
  have hcomp : comp = D.1 ci := Option.some.inj (k3.symm.trans hcls.1)
  subst hcomp
  obtain ⟨kC, hkC, -⟩ := hcls.2
  refine W.aast C.1 C.2.1 har (fun q h => by cases h) (fun h => by cases h) k1 k2 rfl hkC ⟨h0, by show _ < (arrV _ _ _).slots.size; rw [arrV_size]; exact hlt⟩ g1 (fun q h => by rw [g3] at h; cases h) (by rw [g2]; exact hkC) (by rw [g2]; exact va_assign hcls) rfl rfl hdg fun H1 e1 z oq => ?_
  refine kk H1 _ ?_ z oq (hS.put z oq ha)
  unfold xar
  rw [e1, arrV_store]
/-- Object's own -/
theorem yobj (C : xCx p s m args c cc own D cA) {nL idx a : Nat} (hml : c.maxLocals = nL) (hsz : ls.size = nL) (hlink : Cond.methodLink own idx Lib.objectInit ∈ wsG) (hinst : Cond.instanceMethod Lib.objectInit ∈ wsG) (hcode : Cond.code Lib.objectInit ⟨#[0xb1]⟩ 1 none ∈ wsG) (hfr : 1 ≤ R.frames) (hlo : 12 ≤ R.locals) (hdg : decode cc pc = .ok (.invokespecial idx, 3))
    (kk : W p l e R s m args below meth c H locs cells slots Q (F0 m (pc + 3) ls [])) : W p l e R s m args below meth c H locs cells slots Q (F0 m pc ls [.ref a]) :=
  W.objInit C.1 C.2.1 C.2.2.1 (C.2.2.2.1 _ hlink) (C.2.2.2.1 _ hinst) (C.2.2.2.1 _ hcode) rfl (hsz.trans hml.symm) rfl hdg hfr hlo kk
/-- a constructor of one object: what comes of it -/
def xK0 (D : va_G) (cA : Nat → ClassId) (U : State) : Prop := va_K D xCl (xTy cA) U ∧ KN U ∧ KA U
def xAi (a z : Nat) : Nat → Prop := fun q => q = a ∨ z ≤ q
abbrev xQc (a z n : Nat) (B : Heap → Prop) : Array Value → State → Outcome → State → Prop := va_Qv (fun _ : Unit => True) (fun _ t => t.heap.size = z + n ∧ B t.heap) (xAi a z)
def xIc (D : va_G) (cA : Nat → ClassId) (l : Launch) (y : MethodName) (cw : Cond) (rm : Room) (a z ci : Nat) (V0 : Nat → Value) (n ms : Nat) (B : Heap → Prop) : Prop :=
  Met l y (cw :: wsG) rm (va_Pc [.ref a] (fun U => U.heap.size = z ∧ xob D ci a V0 U.heap ∧ xK0 D cA U)) (xQc a z n B) n ms (xAi a z)
abbrev xEc (below : List Frame) (args : Array Value) (s : State) (a z n ms : Nat) (B : Heap → Prop) : State → Prop := MQ below (xQc a z n B) args s n ms (xAi a z)
theorem xIc_of {y : MethodName} {cw : Cond} {rm : Room} {a z ci n ms nL : Nat} {V0 : Nat → Value} {B : Heap → Prop} (hw : cw = Cond.code y cc nL none) (hy : plainName y.cls = true) (hn : 1 ≤ nL) (hin : y.name = "<init>")
    (body : ∀ (p : Program) (e : Env) (s : State) (m : MethodId) (below : List Frame) (meth : Method) (c : Code) (ls : Array Slot), xCx p s m #[.ref a] c cc y.cls D cA → KA s → meth.name = "<init>" → meth.locks = false → meth.sig.returnType = none → c.maxLocals = nL → lv_has ls nL [(0, .ref a)] → s.heap.size = z → xob D ci a V0 s.heap → va_S (xAi a z) s.heap s.heap [] →
      W p l e rm s m #[.ref a] below meth c s.heap [] 0 0 (xEc below #[.ref a] s a z n ms B) (F0 m 0 ls [])) : xIc D cA l y cw rm a z ci V0 n ms B := by
  subst hw
  refine Met.ofW (cc := cc) (maxL := nL) (ret := none) hy rfl ?_
  intro p e s m args below meth c s₁ B' hml hv
  obtain ⟨rfl, hz, hob, hK, hN, hKA⟩ := hv
  have hts := atoms_spec (ws := Cond.code y cc nL none :: wsG) B'.pre
  have hl := lv_entry [Value.ref a] (n := nL) hn
  rw [lg_entry_eq]
  exact body p e s m below meth c _ ⟨B'.exec, B'.bytes, findClass_of_methodNamed B'.named, fun w hw => hts w (List.mem_cons_of_mem _ hw), hK, hN⟩ hKA ((name_of_methodNamed B'.named B'.method).1.trans hin) B'.notSynchronized B'.returns hml hl hz hob va_S.rf
theorem yret {a z n ms : Nat} {B : Heap → Prop} (C : xCx p s m args c cc own D cA) (hlk : meth.locks = false) (hr : meth.sig.returnType = none) (hz : H.size = z + n) (hB : B H) (hS : va_S (xAi a z) s.heap H locs) (hd : decode cc pc = .ok (.return_, 1)) : W p l e R s m args below meth c H locs n ms (xEc below args s a z n ms B) (F0 m pc ls []) :=
  W.vret C.1 C.2.1 hr (fun t ht _ => ⟨⟨(), rfl, trivial, by show t.heap.size = z + n ∧ B t.heap; rw [ht]; exact ⟨hz, hB⟩⟩, hS.F ht⟩) hS.2.2 hd hlk
theorem xIc.blind {a z ci : Nat} {V0 : Nat → Value} : FrameBlind (va_Pc [.ref a] (fun U => U.heap.size = z ∧ xob D ci a V0 U.heap ∧ xK0 D cA U)) := by
  intro b U g mk q
  obtain ⟨q0, q1, q2, q3, q4, q5⟩ := q
  exact ⟨q0, q1, q2, va_K.moved (u := U) (U := U.calling g mk b) (Vm.Alike.refl U.vm) q3, KN.same (u := U) (U := U.calling g mk b) rfl q4, q5.moved (u := U) (U := U.calling g mk b) (Vm.Alike.refl U.vm)⟩
/-- 'invokespecial' of a nest mate's constructor, of another's -/
theorem ycallN {y : MethodName} {bytes : ByteArray} {maxL idx nL a z ci n ms : Nat} {rm : Room} {V0 : Nat → Value} {B : Heap → Prop} (C : xCx p s m args c cc own D cA) (hKA : KA s) (hml : c.maxLocals = nL) (hsz : ls.size = nL) (hM : xIc D cA l y (Cond.code y bytes maxL none) rm a z ci V0 n ms B) (hY : xY y bytes maxL none 0) (h0 : rm.cells = n) (h1 : rm.slots = ms) (hl : Cond.methodLinkNest own idx y "BedsideNet" ∈ tables_1) (hi : Cond.instanceMethod y ∈ wsG) (hin : y.name = "<init>") (hR : rm.frames + 1 ≤ R.frames ∧ 8 + (maxL + 11) + rm.locals ≤ R.locals) (hc1 : cells + n ≤ R.cells) (hs1 : slots + ms ≤ R.slots) (hz : H.size = z) (hob : xob D ci a V0 H) (hS : va_S A H0 H locs) (hA : ∀ q, xAi a z q → A q) (hrs : (rest.map fun v => v.category).sum ≤ 8) (hdg : decode cc pc = .ok (.invokespecial idx, 3))
    (kk : ∀ (H1 : Heap) (locs1 : List Loc), B H1 → H1.size = z + n → (∀ q, q < z → q ≠ a → H1[q]? = H[q]?) → va_S A H0 H1 locs1 → W p l e R s m args below meth c H1 locs1 (cells + n) (slots + ms) Q (F0 m (pc + 3) ls rest)) : W p l e R s m args below meth c H locs cells slots Q (F0 m pc ls (.ref a :: rest)) := by
  refine va_callv (va_runIN (host := "BedsideNet") (Ts := wsG) (nL := nL) (As := []) (rest := rest) ⟨C.1, C.2.1, hml, C.2.2.1, C.2.2.2.1⟩ hM ⟨va_cnB (Ts := wsG) 0 C.2.2.2.1 (xgood' hY.1) rfl h0 h1 (C.2.2.2.2.2 _ hl rfl) (C.2.2.2.1 _ hY.2.1) hY.2.2 hR, hin, C.2.2.2.1 _ hi⟩ ⟨xIc.blind, fun U hU hW => ⟨rfl, by rw [hU]; exact hz, by rw [hU]; exact hob, va_K.moved hW.alike C.2.2.2.2.1, KN.moved hW C.2.2.2.2.2, hKA.moved hW.alike⟩⟩ rfl rfl hsz rfl (lv_room hrs) hdg ⟨hc1, hs1⟩) hS (fun q _ h => hA q h) hA ?_
  rintro u t H1 locs1 ht - - hB hz1 hk1 hS1
  rw [ht] at hB
  exact kk H1 locs1 hB.2 hB.1 (fun q h1 h2 => hk1 q (by omega) (fun z9 => z9.elim h2 (fun y => by omega))) hS1
theorem ycallB {y : MethodName} {bytes : ByteArray} {maxL idx nL a z ci n ms : Nat} {rm : Room} {V0 : Nat → Value} {B : Heap → Prop} (C : xCx p s m args c cc own D cA) (hKA : KA s) (hml : c.maxLocals = nL) (hsz : ls.size = nL) (hM : xIc D cA l y (Cond.code y bytes maxL none) rm a z ci V0 n ms B) (hY : xY y bytes maxL none 0) (h0 : rm.cells = n) (h1 : rm.slots = ms) (hl : Cond.methodLink own idx y ∈ wsG) (hi : Cond.instanceMethod y ∈ wsG) (hin : y.name = "<init>") (hR : rm.frames + 1 ≤ R.frames ∧ 8 + (maxL + 11) + rm.locals ≤ R.locals) (hc1 : cells + n ≤ R.cells) (hs1 : slots + ms ≤ R.slots) (hz : H.size = z) (hob : xob D ci a V0 H) (hS : va_S A H0 H locs) (hA : ∀ q, xAi a z q → A q) (hrs : (rest.map fun v => v.category).sum ≤ 8) (hdg : decode cc pc = .ok (.invokespecial idx, 3))
    (kk : ∀ (H1 : Heap) (locs1 : List Loc), B H1 → H1.size = z + n → (∀ q, q < z → q ≠ a → H1[q]? = H[q]?) → va_S A H0 H1 locs1 → W p l e R s m args below meth c H1 locs1 (cells + n) (slots + ms) Q (F0 m (pc + 3) ls rest)) : W p l e R s m args below meth c H locs cells slots Q (F0 m pc ls (.ref a :: rest)) := by
  refine va_callv (va_runI (Ts := wsG) (nL := nL) (As := []) (rest := rest) ⟨C.1, C.2.1, hml, C.2.2.1, C.2.2.2.1⟩ hM ⟨callB_of (Ts := wsG) 0 C.2.2.2.1 (xgood' hY.1) rfl h0 h1 (C.2.2.2.1 _ hY.2.1) (C.2.2.2.1 _ hl) hY.2.2 hR, hin, C.2.2.2.1 _ hi⟩ ⟨xIc.blind, fun U hU hW => ⟨rfl, by rw [hU]; exact hz, by rw [hU]; exact hob, va_K.moved hW.alike C.2.2.2.2.1, KN.moved hW C.2.2.2.2.2, hKA.moved hW.alike⟩⟩ rfl rfl hsz rfl (lv_room hrs) hdg ⟨hc1, hs1⟩) hS (fun q _ h => hA q h) hA ?_
  rintro u t H1 locs1 ht - - hB hz1 hk1 hS1
  rw [ht] at hB
  exact kk H1 locs1 hB.2 hB.1 (fun q h1 h2 => hk1 q (by omega) (fun z9 => z9.elim h2 (fun y => by omega))) hS1
end CRW
