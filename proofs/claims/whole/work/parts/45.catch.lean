section XK
variable {p : Program} {l : Launch} {e : Env} {R : Room} {s : State} {m : MethodId} {args : Array Value} {below : List Frame} {meth : Method} {c : Code} {H : Heap} {locs : List Loc} {cells slots : Nat} {Q : State → Prop}
/-- the frame g with q thrown over it -/
def xTW (p : Program) (l : Launch) (e : Env) (R : Room) (s : State) (m : MethodId) (args : Array Value) (below : List Frame) (meth : Method) (c : Code) (H : Heap) (locs : List Loc) (cells slots : Nat) (Q : State → Prop) (g : JFrame) (q : Addr) : Prop :=
  ∀ T : State, T.heap = H → Stand p l e R s m args below meth c T locs cells slots → ∃ t, Steps p.tables e below ((T.setTop g).pushFrame (.throwing q)) t ∧ Q t
/-- the search through a table: which handler, and the tables behind it -/
def xFind (e : Env) (U : State) (f : JFrame) (a : Addr) (tbl : List ExceptionTableEntry) (h : Handler) (vm' : Vm) : Prop :=
  ∀ (Q : Handler → Pre) (E : CtlPost) (d : Bool) (acts : List Action), wp (findHandler.go f a tbl) Q E e d acts U ↔ Q h d acts (U.setVm vm')
theorem xFind_hit {U : State} {f : JFrame} {a : Addr} {x : ExceptionTableEntry} {t : List ExceptionTableEntry} {k : ClassId} {cell : Cell} (hx : covers x f.pc = true) (h0 : x.catchType ≠ 0) (hl : U.vm.ClassLinks e.platform f.method.cls x.catchType k) (hcell : U.heap[a]? = some cell) (hv : cell.vm = .none) (hk1 : ∃ z, U.vm.classes[cell.cls]? = some z) (hk2 : ∃ z, U.vm.classes[k]? = some z) (hfit : U.vm.assignable cell.cls k = true) :
    xFind e U f a (x :: t) (.found x.handlerPc) (U.vm.noted f.method.cls x.catchType (.cls k)) := by
  intro Q E d acts
  simp only [covers] at hx
  obtain ⟨ha, ht⟩ := (resolveClass_links e.toSetting hl).op (op := VmOp.resolveClass f.method.cls x.catchType) rfl
  have hal : U.vm.Alike (U.vm.noted f.method.cls x.catchType (.cls k)) := (Vm.Alike.refl U.vm).noted _ _ _
  obtain ⟨z1, hz1⟩ := hk1
  obtain ⟨z2, hz2⟩ := hk2
  obtain ⟨y1, hy1, -⟩ := hal.2.2 _ _ hz1
  obtain ⟨y2, hy2, -⟩ := hal.2.2 _ _ hz2
  have hf : (U.vm.noted f.method.cls x.catchType (.cls k)).assignable cell.cls k = true := by rw [hal.assignable]; exact hfit
  have hobj : ∀ z, cell.vm ≠ .statics z := fun z h => by rw [hv] at h; cases h
  simp [findHandler.go, hx, h0, ha, ht, hcell, hobj, hy1, hy2, hf, VmOp.dirties, VmOp.acts]
theorem xFind_miss {U : State} {f : JFrame} {a : Addr} {x : ExceptionTableEntry} {t : List ExceptionTableEntry} {k : ClassId} {cell : Cell} {h : Handler} {vm' : Vm} (hx : covers x f.pc = true) (h0 : x.catchType ≠ 0) (hl : U.vm.ClassLinks e.platform f.method.cls x.catchType k) (hcell : U.heap[a]? = some cell) (hv : cell.vm = .none) (hk1 : ∃ z, U.vm.classes[cell.cls]? = some z) (hk2 : ∃ z, U.vm.classes[k]? = some z) (hfit : U.vm.assignable cell.cls k = false)
    (hr : xFind e (U.setVm (U.vm.noted f.method.cls x.catchType (.cls k))) f a t h vm') : xFind e U f a (x :: t) h vm' := by
  intro Q E d acts
  simp only [covers] at hx
  obtain ⟨ha, ht⟩ := (resolveClass_links e.toSetting hl).op (op := VmOp.resolveClass f.method.cls x.catchType) rfl
  have hal : U.vm.Alike (U.vm.noted f.method.cls x.catchType (.cls k)) := (Vm.Alike.refl U.vm).noted _ _ _
  obtain ⟨z1, hz1⟩ := hk1
  obtain ⟨z2, hz2⟩ := hk2
  obtain ⟨y1, hy1, -⟩ := hal.2.2 _ _ hz1
  obtain ⟨y2, hy2, -⟩ := hal.2.2 _ _ hz2
  have hf : (U.vm.noted f.method.cls x.catchType (.cls k)).assignable cell.cls k = false := by rw [hal.assignable]; exact hfit
  have hobj : ∀ z, cell.vm ≠ .statics z := fun z h => by rw [hv] at h; cases h
  have h9 := hr Q E d acts
  rw [show (U.setVm (U.vm.noted f.method.cls x.catchType (.cls k))).setVm vm' = U.setVm vm' from rfl] at h9
  rw [← h9]
  simp [findHandler.go, hx, h0, ha, ht, hcell, hobj, hy1, hy2, hf, VmOp.dirties, VmOp.acts]
theorem xstep_catch {S : State} {a : Addr} {f : JFrame} {r : List Frame} {pc : Nat} {vm' : Vm} {meth : Method} {c : Code} (hm : S.vm.method? f.method = some meth) (hc : meth.code = some c) (hfind : xFind e S f a c.exceptionTable.toList (.found pc) vm') :
    (stepThrowing e S a (.java f :: r)).Is ((S.setVm vm').setFrames (.java { f with pc := pc, stack := [.ref a] } :: r)) [] := by
  have h9 : ∀ (Q : Handler → Pre) (E : CtlPost) (d : Bool) (acts : List Action), wp (findHandler f a) Q E e d acts S ↔ Q (.found pc) d acts (S.setVm vm') := fun Q E d acts => (W.findHandler_eq hm hc).trans (hfind Q E d acts)
  simp only [stepThrowing, searchFrame, vmDo]
  generalize hr : Sem.go _ e false [] S = res
  obtain ⟨as, rfl, ha⟩ := Sem.eq_ok_of hr (a := Handler.found pc) (s' := S.setVm vm') (acts' := []) (by simp [h9 _ _ _ _])
  exact ⟨rfl, ha⟩
/-- what is needed of a row of the table: it covers the pc, its class's link -/
def xRow (own : String) (pc : Nat) (x : ExceptionTableEntry) (name : String) : Prop := covers x pc = true ∧ x.catchType ≠ 0 ∧ Cond.classLink own x.catchType name ∈ wsG
theorem xcaught {D : va_G} {cA : Nat → ClassId} {cc : ByteArray} {own : String} {pc : Nat} {ls : Array Slot} {rest : List Value} {q : Addr} {ce : Cell} {E : String} {hpc : Nat} (C : xCx p s m args c cc own D cA) (hcell : H[q]? = some ce) (hv : ce.vm = .none) (hcl : s.vm.findClass E = some ce.cls)
    (hfind : ∀ T : State, T.heap = H → s.WarmedH T.vm → l.admits e → ∃ vm', s.WarmedH vm' ∧ ∀ U : State, U.vm = T.vm → U.heap = T.heap → xFind e U (F0 m pc ls rest) q c.exceptionTable.toList (.found hpc) vm')
    (kk : W p l e R s m args below meth c H locs cells slots Q (F0 m hpc ls [.ref q])) : xTW p l e R s m args below meth c H locs cells slots Q (F0 m pc ls rest) q := by
  intro T hT X
  obtain ⟨vm', hW', hf⟩ := hfind T hT X.warmed X.admits
  have X' := X.noted hW'
  obtain ⟨t, a1, b1⟩ := kk (T.setVm vm') hT X'
  refine ⟨t, ?_, b1⟩
  have h : At T (F0 m pc ls rest).method c below := X.here
  obtain ⟨hgo, hw⟩ := h.throwing q
  refine Steps.head hgo hw ?_
  have hmeth : ((T.setTop (F0 m pc ls rest)).pushFrame (.throwing q)).vm.method? (F0 m pc ls rest).method = some meth := X.method'
  rw [stepThread_throwing (frames_entered h.top _), (xstep_catch (S := (T.setTop (F0 m pc ls rest)).pushFrame (.throwing q)) hmeth X.code (hf _ (Stand.throwing_vm T _ q) (Stand.throwing_heap T _ q))).1]
  obtain ⟨g₀, hg⟩ := Option.isSome_iff_exists.mp h.top
  obtain ⟨r, hr⟩ := State.topJava?_eq_some.mp hg
  have hr' : (T.setVm vm').frames = .java g₀ :: r := hr
  rw [State.setTop_of_frames _ hr'] at a1
  have e1 : ∀ (u : State) (F G : List Frame), ((u.setFrames F).setVm vm').setFrames G = (u.setVm vm').setFrames G := by
    intro u F G
    rw [show (u.setFrames F).setVm vm' = (u.setVm vm').setFrames F from rfl, State.setFrames_setFrames]
  rw [hr, List.tail_cons, State.pushFrame, e1, State.setTop_of_frames _ hr, e1]
  exact a1
end XK
