section XL
variable {p : Program} {l : Launch} {e : Env} {R : Room} {s : State} {m : MethodId} {args : Array Value} {below : List Frame} {meth : Method} {c : Code} {H : Heap} {locs : List Loc} {cells slots : Nat} {Q : State → Prop}
variable {D : va_G} {cA : Nat → ClassId} {cc : ByteArray} {own : String} {pc : Nat} {ls : Array Slot} {rest : List Value} {q : Addr} {ce : Cell} {E : String}
/-- one row of the table in the tables of now: the link, the class behind it, the tables with it noted -/
theorem xlink (C : xCx p s m args c cc own D cA) (ha : l.admits e) {x : ExceptionTableEntry} {name : String} (hx : xRow own pc x name) {vm : Vm} (hW : s.WarmedH vm) : ∃ k, s.vm.findClass name = some k ∧ vm.ClassLinks e.platform m.cls x.catchType k ∧ (∃ z, vm.classes[k]? = some z) ∧ s.WarmedH (vm.noted m.cls x.catchType (.cls k)) := by
  have hpl : e.platform.magicAccessors = ({} : Platform).magicAccessors := by rw [ha.platform]
  obtain ⟨k, hk, hlk⟩ := Cond.classLink_spec C.2.2.1 (C.2.2.2.1 _ hx.2.2) e.platform hpl
  obtain ⟨dk, _, _, kt, hd, _, _, _, _, hkt, _, hopen⟩ := hlk.here
  obtain ⟨kt', hkt', -⟩ := hW.alike.2.2 _ _ hkt
  exact ⟨k, hk, hW.classLinks hlk, ⟨kt', hkt'⟩, hW.noted hd hopen (State.rightAt_cls hlk)⟩
theorem xclass {vm : Vm} (hW : s.WarmedH vm) (hcl : s.vm.findClass E = some ce.cls) : ∃ z, vm.classes[ce.cls]? = some z := by
  obtain ⟨z, hz⟩ := Vm.classAt_of_findClass hcl
  obtain ⟨z', hz', -⟩ := hW.alike.2.2 _ _ hz
  exact ⟨z', hz'⟩
theorem xf_hit (C : xCx p s m args c cc own D cA) {x : ExceptionTableEntry} {t : List ExceptionTableEntry} {name : String} (htab : c.exceptionTable.toList = x :: t) (hx : xRow own pc x name) (hcast : va_Nw (.castable E name) s) (hcell : H[q]? = some ce) (hv : ce.vm = .none) (hcl : s.vm.findClass E = some ce.cls) :
    ∀ T : State, T.heap = H → s.WarmedH T.vm → l.admits e → ∃ vm', s.WarmedH vm' ∧ ∀ U : State, U.vm = T.vm → U.heap = T.heap → xFind e U (F0 m pc ls rest) q c.exceptionTable.toList (.found x.handlerPc) vm' := by
  intro T hT hW ha
  obtain ⟨k, hk, h1, h2, h3⟩ := xlink (e := e) C ha hx hW
  obtain ⟨a1, b1, c1, c2, c3⟩ := Cond.castable_spec hcast
  cases Option.some.inj (c1.symm.trans hcl)
  cases Option.some.inj (c2.symm.trans hk)
  refine ⟨_, h3, fun U hU hUh => ?_⟩
  rw [htab]
  have z := xFind_hit (e := e) (U := U) (f := F0 m pc ls rest) (a := q) (t := t) hx.1 hx.2.1 (by rw [hU]; exact h1) (by rw [hUh, hT]; exact hcell) hv (by rw [hU]; exact xclass hW hcl) (by rw [hU]; exact h2) (by rw [hU, hW.alike.assignable]; exact c3)
  rw [hU] at z
  exact z
theorem xf_miss (C : xCx p s m args c cc own D cA) {x y : ExceptionTableEntry} {t : List ExceptionTableEntry} {name name2 : String} (htab : c.exceptionTable.toList = x :: y :: t) (hx : xRow own pc x name) (hy : xRow own pc y name2) (hno : va_Nc E name s) (hcast : va_Nw (.castable E name2) s) (hcell : H[q]? = some ce) (hv : ce.vm = .none) (hcl : s.vm.findClass E = some ce.cls) :
    ∀ T : State, T.heap = H → s.WarmedH T.vm → l.admits e → ∃ vm', s.WarmedH vm' ∧ ∀ U : State, U.vm = T.vm → U.heap = T.heap → xFind e U (F0 m pc ls rest) q c.exceptionTable.toList (.found y.handlerPc) vm' := by
  intro T hT hW ha
  obtain ⟨k, hk, h1, h2, h3⟩ := xlink (e := e) C ha hx hW
  obtain ⟨k2, hk2, g1, g2, g3⟩ := xlink (e := e) C ha hy h3
  obtain ⟨a1, b1, c1, c2, c3⟩ := Cond.castable_spec hcast
  cases Option.some.inj (c1.symm.trans hcl)
  cases Option.some.inj (c2.symm.trans hk2)
  obtain ⟨u1, u2, n1, n2, n3⟩ := hno
  cases Option.some.inj (n1.symm.trans hcl)
  cases Option.some.inj (n2.symm.trans hk)
  refine ⟨_, g3, fun U hU hUh => ?_⟩
  rw [htab]
  refine xFind_miss (e := e) (U := U) (f := F0 m pc ls rest) (a := q) hx.1 hx.2.1 (k := k) (by rw [hU]; exact h1) (by rw [hUh, hT]; exact hcell) hv (by rw [hU]; exact xclass hW hcl) (by rw [hU]; exact h2) (by rw [hU, hW.alike.assignable]; exact n3) ?_
  rw [hU]
  have z := xFind_hit (e := e) (U := U.setVm (T.vm.noted m.cls x.catchType (.cls k))) (f := F0 m pc ls rest) (a := q) (x := y) (t := t) hy.1 hy.2.1 g1 (by show U.heap[q]? = _; rw [hUh, hT]; exact hcell) hv (xclass h3 hcl) g2 (by show (T.vm.noted m.cls x.catchType (.cls k)).assignable _ _ = true; rw [h3.alike.assignable]; exact c3)
  exact z
end XL
section XM
variable {p : Program} {l : Launch} {e : Env} {R : Room} {s : State} {m : MethodId} {args : Array Value} {below : List Frame} {meth : Method} {c : Code} {H : Heap} {locs : List Loc} {cells slots : Nat} {Q : State → Prop}
variable {cc : ByteArray} {pc : Nat} {ls : Array Slot} {rest st0 : List Value} {own : String} {D : va_G} {cA : Nat → ClassId} {w : xD} {b : Nat} {st st' : XS} {r : Int32} {ex : Nat}
variable {y : MethodName} {bytes : ByteArray} {maxL n idx nL : Nat} {ret : Option FieldType} {rm : Room} {As : List Value}
/-- a call that may throw -/
theorem xcT {j a i ci : Nat} {T9 : u_T} {N : Nat} {ty : Nat → FieldType} (C : xCx p s m args c cc own D cA) (hml : c.maxLocals = nL) (hsz : ls.size = nL) (hM : xMt w D cA b l y (Cond.code y bytes maxL ret) rm st (.ref (b + j) :: As) ex r st') (hY : xY y bytes maxL ret n) (hl : Cond.methodLink own idx y ∈ wsG) (hi : Cond.instanceMethod y ∈ wsG) (hse : Cond.selects y.cls y y ∈ wsG)
    (hR : rm.frames + 1 ≤ R.frames ∧ 8 + (maxL + 11) + rm.locals ≤ R.locals) (hc1 : cells + rm.cells ≤ R.cells) (hs1 : slots + rm.slots ≤ R.slots) (hP : xP w D cA b st H) (hT : KT s) (z1 : zst tThr "UNASSIGNED_STACK" dSte b s) (z2 : zst tThr "SUPPRESSED_SENTINEL" dLst b s) (hlow : ∀ q, q < b → H[q]? = s.heap[q]?)
    (ho : xo w j a i) (hs : w.2.2.2.1 a = .inl ci) (hc : xcl ci y.cls T9 N ty) (hn : As.length = n) (hrs : (rest.map fun v => v.category).sum ≤ 8) (hdg : decode cc pc = .ok (.invokevirtual idx, 3)) (hst : st0 = As.reverse ++ .ref (b + j) :: rest)
    (kr : ex = 0 → ∀ (H1 : Heap) (L : List Loc), xP w D cA b st' H1 → H.size ≤ H1.size → (∀ q, q < H.size → ¬ xA w b q → H1[q]? = H[q]?) → (∀ z ∈ L, xA w b z.base) → W p l e R s m args below meth c H1 (locs ++ L) (cells + 1) (slots + 6) Q (F0 m (pc + 3) ls (.int r :: rest)))
    (kt : ex ≠ 0 → ∀ (H1 : Heap) (L : List Loc) (q : Addr) (ce : Cell), xP w D cA b st' H1 → H.size ≤ H1.size → (∀ q, q < H.size → ¬ xA w b q → H1[q]? = H[q]?) → (∀ z ∈ L, xA w b z.base) → H1[q]? = some ce → ce.vm = .none → s.vm.findClass (exN ex) = some ce.cls → xTW p l e R s m args below meth c H1 (locs ++ L) (cells + 1) (slots + 6) Q (F0 m pc ls rest) q) :
    W p l e R s m args below meth c H locs cells slots Q (F0 m pc ls st0) := by
  subst hst
  intro T hTH X
  obtain ⟨cellB, hcB, hoB, hclB⟩ := xrecv C hP ho hs hc
  obtain ⟨mk, methM, hnamed, hmethM, hstM, habM⟩ := Cond.instanceMethod_spec (C.2.2.2.1 _ hi)
  obtain ⟨methM', cM, hmethM', hcM, -, hlM, -, -, -, hsigM⟩ := Cond.code_spec hnamed (C.2.2.2.1 _ hY.1)
  cases hmethM.symm.trans hmethM'
  obtain ⟨c2, r2, m2, q1, q2, q3, q4, kP, hkP, hkPi⟩ := Cond.selects_spec (C.2.2.2.1 _ hse)
  have hyn : y.cls ≠ "java/lang/invoke/MethodHandle" ∧ y.cls ≠ "java/lang/invoke/VarHandle" := ⟨hY.2.2.1, hY.2.2.2.1⟩
  cases hclB.symm.trans q1
  cases (State.methodFound?_of_named hnamed hyn).symm.trans q2
  cases hnamed.symm.trans q3
  have hselP : selectMethod e.platform s.vm cellB.cls mk = .method mk := by rw [Launch.admits_selectMethod X.admits]; exact q4
  have hlen : As.length = methM.sig.parameters.length := by
    have h2 := hY.2.2.2.2
    rw [hsigM] at h2
    exact hn.trans (Option.some.inj h2).symm
  obtain ⟨vm₁, X₁, hstep₁⟩ := X.invokevirtual C.1 C.2.2.1 (C.2.2.2.1 _ hl) hnamed hmethM hstM hkP hkPi hyn (a := b + j) (cell := cellB) (by rw [hTH]; exact hcB)
    (fun z h => by rw [h] at hoB; cases hoB) hselP hmethM habM hkP hkPi (g := F0 m pc ls (As.reverse ++ .ref (b + j) :: rest)) rfl (argsL := As) (rest := rest) hlen rfl (by rw [C.2.1]; exact hdg)
  have hW₁ : s.WarmedH (T.setVm vm₁).vm := X₁.warmed
  have hname₁ : (T.setVm vm₁).methodNamed? y = some mk := by
    have h9 := X₁.named hnamed
    exact h9
  have hmeth₁ : (T.setVm vm₁).vm.method? mk = some methM := (hW₁.alike.method? mk).trans hmethM
  obtain ⟨kY, hkY, -⟩ := className_of_methodNamed hname₁
  have hinitY : kY.init = .initialized := Cond.initialized_spec (args := args) (findClass_of_methodNamed hname₁) hkY (word_at hW₁ (good_of_word (List.mem_filter.mp hY.2.1).2) (C.2.2.2.1 _ hY.2.1))
  have hAt : At (T.setVm vm₁) (F0 m pc ls rest).method c below := X₁.here
  have hd' : decode c.code (F0 m pc ls rest).pc = .ok (.invokevirtual idx, 3) := by rw [C.2.1]; exact hdg
  have hpre : (headSpec (Cond.code y bytes maxL ret :: wsG) rm).pre.before (Value.ref (b + j) :: As).toArray (T.setVm vm₁) = true := atoms_intro fun x hx => by
    have hx' : x ∈ wsG := (List.mem_cons.mp hx).elim (fun e => e ▸ hY.1) id
    exact word_at hW₁ (good_of_word (List.mem_filter.mp hx').2) (C.2.2.2.1 x hx')
  have happ : (headSpec (Cond.code y bytes maxL ret :: wsG) rm).appliesLoose y e.platform ((T.setVm vm₁).calling (F0 m pc ls rest) mk (Value.ref (b + j) :: As).toArray) = true :=
    Spec.appliesLoose_calling (g := F0 m pc ls rest) hAt hd' hname₁ hkY hinitY
      (X₁.room_calling (g := F0 m pc ls rest) (R' := rm) (hsz.trans hml.symm) hmeth₁ hcM hR.1 (by rw [hlM]; have h9 : 2 * (F0 m pc ls rest).monitorRoom + ((F0 m pc ls rest).stack.map fun v => v.category).sum ≤ 8 := lv_room (m := m) (pc := pc) (ls := ls) (rest := rest) hrs; have h8 := hR.2; omega) hc1 hs1) hpre
  obtain ⟨mid, hmid⟩ := hAt.above
  have hfr : ((T.setVm vm₁).setTop (F0 m pc ls rest)).frames = (.java (F0 m pc ls rest) :: mid) ++ below := by rw [State.frames_setTop' _ hAt.top, hmid]; rfl
  have hTheap : (T.setVm vm₁).heap = H := hTH
  have hPre : va_Pc (.ref (b + j) :: As) (xPreT w D cA b st) (Value.ref (b + j) :: As).toArray ((T.setVm vm₁).calling (F0 m pc ls rest) mk (Value.ref (b + j) :: As).toArray) := by
    have hvm : ((T.setVm vm₁).calling (F0 m pc ls rest) mk (Value.ref (b + j) :: As).toArray).vm = (T.setVm vm₁).vm := rfl
    have hhp : ((T.setVm vm₁).calling (F0 m pc ls rest) mk (Value.ref (b + j) :: As).toArray).heap = H := hTH
    have hW2 : s.WarmedH ((T.setVm vm₁).calling (F0 m pc ls rest) mk (Value.ref (b + j) :: As).toArray).vm := hW₁
    exact ⟨rfl, ⟨by rw [hhp]; exact hP, va_K.moved hW2.alike C.2.2.2.2.1, KN.moved hW2 C.2.2.2.2.2⟩, KT.moved hW2 hT, z1.moved hW2.alike (fun a ha => by rw [hhp]; exact hlow a ha), z2.moved hW2.alike (fun a ha => by rw [hhp]; exact hlow a ha)⟩
  obtain ⟨o, s₂, hsteps, -, hend, hq, hE⟩ := Steps.callFree hM p X₁.admits X₁.cas X₁.clock (acts := []) hfr happ hPre trivial
  obtain ⟨⟨hP2, hF1, hF2⟩, hcase⟩ := hq
  obtain ⟨hW2, L, hsame, hL⟩ := hE
  rw [State.frames_setTop' _ hAt.top, X₁.tail] at hend
  have hsz0 : H.size ≤ s₂.heap.size := by rw [← hTheap]; exact hF1
  have hkp : ∀ q, q < H.size → ¬ xA w b q → s₂.heap[q]? = H[q]? := fun q h1 h2 => by rw [← hTheap] at h1 ⊢; exact hF2 q h1 h2
  rcases hcase with ⟨hex, rfl⟩ | ⟨hex, q, ce, rfl, hce, hcv, hccl⟩
  · obtain ⟨T', X', -, -, ht⟩ := X₁.outOf (g := F0 m pc ls rest) rfl hd' hend hW2 hsame
    have hh : T'.heap = s₂.heap := by rw [ht]; exact (State.heap_setTop _ _).symm
    obtain ⟨t, a1, b1⟩ := kr hex s₂.heap L hP2 hsz0 hkp hL T' hh X'
    refine ⟨t, hstep₁ _ fun acts => ?_, b1⟩
    rw [doInvoke_state]
    rw [ht] at hsteps
    exact hsteps.trans a1
  · obtain ⟨T', X', -, -, ht⟩ := X₁.outOfThrown (g := F0 m pc ls rest) rfl hend hW2 hsame
    have hh : T'.heap = s₂.heap := by rw [ht]; exact (Stand.throwing_heap _ _ _).symm
    have hccl' : s.vm.findClass (exN ex) = some ce.cls := by
      have h1 : (T.setVm vm₁).vm.findClass (exN ex) = some ce.cls := hccl
      rw [hW₁.alike.findClass] at h1
      exact h1
    obtain ⟨t, a1, b1⟩ := kt hex s₂.heap L q ce hP2 hsz0 hkp hL hce hcv hccl' T' hh X'
    refine ⟨t, hstep₁ _ fun acts => ?_, b1⟩
    rw [doInvoke_state]
    rw [ht] at hsteps
    exact hsteps.trans a1
end XM
