/-! throwing: what the tables and the statics of Throwable say, where a method of the class starts -/
def tW (w : Cond) : Bool := match w with
  | .castable .. => true
  | .declares .. => true
  | _ => false
def KT (U : State) : Prop := ∀ w ∈ tables_1, tW w = true → va_Nw w U
theorem KT.moved {s U : State} (hW : s.WarmedH U.vm) (h : KT s) : KT U := by
  intro w hw hn
  have h1 := h w hw hn
  cases w with
  | castable a b =>
    have e := Cond.castable_setVm (s := s) (args := #[]) hW.alike a b
    exact va_tabs rfl (rfl : (s.setVm U.vm).vm = U.vm) (e.trans h1)
  | declares x => exact va_Nw.warmD hW h1
  | _ => simp [tW] at hn
theorem KT.same {u U : State} (hvm : u.vm = U.vm) (h : KT u) : KT U := by
  intro w hw hn
  have h1 := h w hw hn
  cases w with
  | castable a b => exact va_Nw.same rfl hvm h1
  | declares x => exact va_Nw.same rfl hvm h1
  | _ => simp [tW] at hn
/-- a static field of references, in a cell below b -/
def zst (C n d : String) (b : Nat) (U : State) : Prop := ∃ (c : ClassId) (k : Class) (i : Nat) (f : Field) (a : Nat) (cell : Cell) (v : Value), U.vm.findClass C = some c ∧ U.fieldFound? C n d = some (c, k, i, f) ∧ f.isStatic = true ∧ k.statics = some a ∧ U.heap[a]? = some cell ∧ cell.vm.isStatics = true ∧ cell.cls = c ∧ f.slot < cell.slots.size ∧ k.staticTypes[f.slot]? = some f.type ∧ cell.slots[f.slot]? = some v ∧ v.isRef = true ∧ a < b
theorem zst.moved {C n d : String} {b : Nat} {u U : State} (hvm : u.vm.Alike U.vm) (hh : ∀ a, a < b → U.heap[a]? = u.heap[a]?) (h : zst C n d b u) : zst C n d b U := by
  obtain ⟨c, k, i, f, a, cell, v, h1, h2, h3, h4, h5, h6, h7, h8, h9, h10, h11, h12⟩ := h
  obtain ⟨k', hi', he⟩ := State.fieldFound?_setVm hvm h2
  exact ⟨c, k', i, f, a, cell, v, by rw [hvm.findClass]; exact h1, hi', h3, by rw [he]; exact h4, by rw [hh a h12]; exact h5, h6, h7, h8, by rw [he]; exact h9, h10, h11, h12⟩
theorem zst.lays {C n d : String} {b : Nat} {U : State} {args : Array Value} (h : zst C n d b U) : (Cond.laysStatic C n d).before args U = true := by
  obtain ⟨c, k, i, f, a, cell, v, h1, h2, h3, h4, h5, h6, h7, h8, h9, -⟩ := h
  exact Cond.laysStatic_of h1 h2 h3 h4 h5 h6 h7 h8 h9
theorem zst.isRef {C n d : String} {b : Nat} {U : State} {args : Array Value} (h : zst C n d b U) : (Cond.isRef (.static C n d)).before args U = true := by
  obtain ⟨c, k, i, f, a, cell, v, h1, h2, h3, h4, h5, h6, h7, h8, h9, h10, h11, -⟩ := h
  have he : (Term.static C n d).eval args U none [] U = some v := by
    simp [Term.eval, State.fieldNamed?, h2, h3, h4, h5, h6, h10]
  simp only [Cond.before, Cond.holds, Cond.value, he]
  cases v <;> simp_all [Value.isRef]
theorem zst.of {args : Array Value} {s : State} {C n d : String} {b : Nat} (hl : (Cond.laysStatic C n d).before args s = true) (hr : (Cond.isRef (.static C n d)).before args s = true) (hb : s.heap.size ≤ b) : zst C n d b s := by
  obtain ⟨c, k, i, f, a, cell, h1, h2, h3, h4, h5, h6, h7, h8, h9⟩ := Cond.laysStatic_spec hl
  obtain ⟨u, hu⟩ := Cond.staticRefV h2 h3 h4 h5 h6 hr
  exact ⟨c, k, i, f, a, cell, u.v, h1, h2, h3, h4, h5, h6, h7, h8, h9, hu, u.2, Nat.lt_of_lt_of_le (Array.getElem?_eq_some_iff.mp h5).1 hb⟩
abbrev tThr : String := "java/lang/Throwable"
abbrev dSte : String := "[Ljava/lang/StackTraceElement;"
abbrev dLst : String := "Ljava/util/List;"
def xPreT (w : xD) (D : va_G) (cA : Nat → ClassId) (b : Nat) (st : XS) (U : State) : Prop := xPre w D cA b st U ∧ KT U ∧ zst tThr "UNASSIGNED_STACK" dSte b U ∧ zst tThr "SUPPRESSED_SENTINEL" dLst b U
/-- which exception: 0 is none -/
def exN (ex : Nat) : String := match ex with
  | 1 => "java/lang/IllegalArgumentException"
  | 2 => "java/lang/IllegalStateException"
  | 3 => "java/lang/IndexOutOfBoundsException"
  | _ => "java/util/NoSuchElementException"
def xQt (w : xD) (D : va_G) (cA : Nat → ClassId) (b : Nat) (ex : Nat) (r : Int32) (st' : XS) (s : State) (o : Outcome) (t : State) : Prop :=
  (xP w D cA b st' t.heap ∧ va_F (xA w b) s t) ∧ ((ex = 0 ∧ o = .returned (some (.int r))) ∨ (ex ≠ 0 ∧ ∃ (q : Addr) (ce : Cell), o = .threw q ∧ t.heap[q]? = some ce ∧ ce.vm = .none ∧ s.vm.findClass (exN ex) = some ce.cls))
def xEnd (w : xD) (b : Nat) (s t : State) : Prop := s.WarmedH t.vm ∧ ∃ L, s.sameButNew ({ t with vm := s.vm } : State) L 1 6 ∧ ∀ z ∈ L, xA w b z.base
def xMt (w : xD) (D : va_G) (cA : Nat → ClassId) (b : Nat) (l : Launch) (y : MethodName) (cw : Cond) (rm : Room) (st : XS) (av : List Value) (ex : Nat) (r : Int32) (st' : XS) : Prop :=
  MetFree l y (headSpec (cw :: wsG) rm) (va_Pc av (xPreT w D cA b st)) (fun _ _ _ _ _ => True) (fun _ s o t => xQt w D cA b ex r st' s o t ∧ xEnd w b s t)
def xEt (w : xD) (D : va_G) (cA : Nat → ClassId) (b : Nat) (below : List Frame) (s : State) (ex : Nat) (r : Int32) (st' : XS) : State → Prop := fun t => ∃ o, t.status = .running ∧ Ended t below o ∧ xQt w D cA b ex r st' s o t ∧ xEnd w b s t
section XT
variable {p : Program} {l : Launch} {e : Env} {R : Room} {s : State} {m : MethodId} {args : Array Value} {below : List Frame} {meth : Method} {c : Code} {H : Heap} {locs : List Loc}
variable {cc : ByteArray} {pc : Nat} {ls : Array Slot} {rest : List Value} {own : String} {D : va_G} {cA : Nat → ClassId} {w : xD} {b : Nat} {st : XS}
theorem xMt_of {y : MethodName} {cw : Cond} {rm : Room} {av : List Value} {ex : Nat} {r : Int32} {st' : XS} {nL : Nat} {ty : FieldType} (hw : cw = Cond.code y cc nL (some ty)) (hy : plainName y.cls = true) (hn : (lg_sl av).length ≤ nL)
    (body : ∀ (p : Program) (e : Env) (s : State) (m : MethodId) (below : List Frame) (meth : Method) (c : Code) (ls : Array Slot), xCx p s m av.toArray c cc y.cls D cA → meth.locks = false → meth.sig.returnType = some ty → c.maxLocals = nL → lv_has ls nL (lv_args 0 av) → xP w D cA b st s.heap → va_S (xA w b) s.heap s.heap [] → xPreT w D cA b st s → c.exceptionTable.toList = [] →
      W p l e rm s m av.toArray below meth c s.heap [] 0 0 (xEt w D cA b below s ex r st') (F0 m 0 ls [])) : xMt w D cA b l y cw rm st av ex r st' := by
  subst hw
  refine MetFree.of_bodyS (code := cc) (maxLocals := nL) (ret := some ty) hy ?_ ?_
  · intro args s m h hn
    obtain ⟨meth, c, h1, h2, h3, h4, h5, h6, -, -⟩ := Cond.code_spec hn (atoms_spec (ws := Cond.code y cc nL (some ty) :: wsG) h _ List.mem_cons_self)
    exact ⟨meth, c, h1, h2, h3, h4, h5, h6⟩
  · intro p e s m args below meth c s₁ B hml hv _
    obtain ⟨rfl, hT⟩ := hv
    have hts := atoms_spec (ws := Cond.code y cc nL (some ty) :: wsG) B.pre
    have hno := B.noHandlers (hts _ List.mem_cons_self)
    have hl := lv_entry av (n := nL) hn
    have hh0 : s₁.heap = s.heap := by rw [B.state]; rfl
    have hno' : c.exceptionTable.toList = [] := by
      have h0 : c.exceptionTable.size = 0 := by simpa [Array.isEmpty] using hno
      exact List.eq_nil_of_length_eq_zero (by simpa using h0)
    have k := body p e s m below meth c _ ⟨B.exec, B.bytes, findClass_of_methodNamed B.named, fun w hw => hts w (List.mem_cons_of_mem _ hw), hT.1.2.1, hT.1.2.2⟩ B.notSynchronized B.returns hml hl hT.1.1 va_S.rf hT hno'
    rw [← lg_entry_eq] at k
    obtain ⟨t, a1, o, b1, b2, b3⟩ := k s₁ hh0 (Stand.of_body B)
    exact ⟨t, o, a1, b1, b2, b3⟩
/-- a body that may throw gives an int -/
theorem xrti {r r' : Int32} {st' u : XS} (C : xCx p s m args c cc own D cA) (hlk : meth.locks = false) (hr : meth.sig.returnType = some .int) (hP : xP w D cA b u H) (hS : va_S (xA w b) s.heap H locs) (hd : decode cc pc = .ok (.ireturn, 1)) (he : r' = r ∧ u = st') : W p l e R s m args below meth c H locs 0 0 (xEt w D cA b below s 0 r st') (F0 m pc ls [.int r']) := by
  obtain ⟨rfl, rfl⟩ := he
  intro T hT X
  obtain ⟨t, a1, o, b1, b2, b3, L, ⟨b4, b5, b6⟩, b7⟩ := xri (R := R) C hlk hr hP hS hd ⟨rfl, rfl⟩ T hT X
  obtain ⟨⟨r2, u2, e1, ⟨e2, e3⟩, e4⟩, e5⟩ := b3
  subst e2; subst e3
  exact ⟨t, a1, o, b1, b2, ⟨⟨e4, e5⟩, Or.inl ⟨rfl, e1⟩⟩, b5, L, b6.mono (Nat.zero_le _) (Nat.zero_le _), b7⟩
theorem xP.notStatics {H : Heap} (h : xP w D cA b st H) {q : Nat} {cell : Cell} (hq : xA w b q) (hc : H[q]? = some cell) : cell.vm.isStatics = false := by
  obtain ⟨h1, h2⟩ := hq
  have h3 := h (q - b) (by omega)
  have e : b + (q - b) = q := by omega
  unfold xat at h3
  split at h3
  · obtain ⟨r, -, cell', g1, -, g3, -⟩ := h3
    rw [e, hc] at g1
    cases g1
    rw [g3]; rfl
  · rw [e, hc] at h3
    cases h3
    rfl
end XT
