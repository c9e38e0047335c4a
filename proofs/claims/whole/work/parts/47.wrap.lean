/-! the law's wrappers: a call that may throw inside try, its answer in a cell of longs -/
def xNC (U : State) : Prop := va_Nc "java/lang/IllegalStateException" "java/lang/IllegalArgumentException" U ∧ va_Nc "java/util/NoSuchElementException" "java/lang/IndexOutOfBoundsException" U ∧ va_Nc "java/lang/IndexOutOfBoundsException" "java/util/NoSuchElementException" U
theorem xNC.moved {u U : State} (hvm : u.vm.Alike U.vm) (h : xNC u) : xNC U := ⟨h.1.moved hvm, h.2.1.moved hvm, h.2.2.moved hvm⟩
def xout (cA : Nat → ClassId) (o : Nat) (v : Int64) (H : Heap) : Prop := H[o]? = some (arrV (cA 2) 1 (fun _ => .long v))
def xAo (w : xD) (b o : Nat) : Nat → Prop := fun q => xA w b q ∨ q = o
def xPreO (w : xD) (D : va_G) (cA : Nat → ClassId) (b o : Nat) (v : Int64) (st : XS) (U : State) : Prop := xPreT w D cA b st U ∧ xNC U ∧ xout cA o v U.heap ∧ ¬ xA w b o
abbrev xQo (w : xD) (D : va_G) (cA : Nat → ClassId) (b o : Nat) (k : Int32) (st' : XS) (v' : Int64) : Array Value → State → Outcome → State → Prop := va_Qi (fun r (u : XS × Int64) => r = k ∧ u = (st', v')) (fun u t => xP w D cA b u.1 t.heap ∧ xout cA o u.2 t.heap) (xAo w b o)
abbrev xEo (w : xD) (D : va_G) (cA : Nat → ClassId) (b o : Nat) (below : List Frame) (args : Array Value) (s : State) (k : Int32) (st' : XS) (v' : Int64) : State → Prop := MQ below (xQo w D cA b o k st' v') args s 1 6 (xAo w b o)
def xMo (w : xD) (D : va_G) (cA : Nat → ClassId) (b o : Nat) (l : Launch) (y : MethodName) (cw : Cond) (rm : Room) (st : XS) (v : Int64) (av : List Value) (k : Int32) (st' : XS) (v' : Int64) : Prop :=
  Met l y (cw :: wsG) rm (va_Pc av (xPreO w D cA b o v st)) (xQo w D cA b o k st' v') 1 6 (xAo w b o)
/-- the cell of the answer, behind the call -/
def wV (ex : Nat) (r : Int32) (v : Int64) : Int64 := if ex = 0 then r.toInt64 else v
theorem arrV_1 {cI : ClassId} {f g : Nat → Value} (h : f 0 = g 0) : arrV cI 1 f = arrV cI 1 g := by
  have e : (fun j : Fin 1 => f j.val) = fun j : Fin 1 => g j.val := by
    funext j
    have h0 : j.val = 0 := by omega
    rw [h0]; exact h
  unfold arrV
  rw [e]
section XO
variable {p : Program} {l : Launch} {e : Env} {R : Room} {s : State} {m : MethodId} {args : Array Value} {below : List Frame} {meth : Method} {c : Code} {H : Heap} {locs : List Loc} {cells slots : Nat} {Q : State → Prop}
variable {cc : ByteArray} {pc : Nat} {ls : Array Slot} {rest st0 : List Value} {own : String} {D : va_G} {cA : Nat → ClassId} {w : xD} {b o : Nat} {st st' : XS} {r k : Int32} {v v' : Int64} {ex : Nat}
variable {y : MethodName} {bytes : ByteArray} {maxL n idx nL : Nat} {ret : Option FieldType} {rm : Room} {As : List Value}
theorem xMo_of {av : List Value} {hh : List (Nat × Nat × Nat × Nat)} {cw : Cond} {nL : Nat} (hw : cw = Cond.codeWith y cc nL (some .int) hh) (hy : plainName y.cls = true) (hn : (lg_sl av).length ≤ nL)
    (body : ∀ (p : Program) (e : Env) (s : State) (m : MethodId) (below : List Frame) (meth : Method) (c : Code) (ls : Array Slot), xCx p s m av.toArray c cc y.cls D cA → meth.locks = false → meth.sig.returnType = some .int → c.maxLocals = nL → lv_has ls nL (lv_args 0 av) → xPreO w D cA b o v st s → c.exceptionTable.toList.map (fun h => (h.startPc, h.endPc, h.handlerPc, h.catchType)) = hh →
      W p l e rm s m av.toArray below meth c s.heap [] 0 0 (xEo w D cA b o below av.toArray s k st' v') (F0 m 0 ls [])) : xMo w D cA b o l y cw rm st v av k st' v' := by
  subst hw
  refine va_MetW (cc := cc) (maxL := nL) (ret := some .int) (hh := hh) (ws' := wsG) hy rfl ?_
  intro p e s m args below meth c s₁ B hml hv
  obtain ⟨rfl, hT⟩ := hv
  have hts := atoms_spec (ws := Cond.codeWith y cc nL (some .int) hh :: wsG) B.pre
  obtain ⟨m9, meth9, c9, hn9, h1, h2, -, -, htab, -⟩ := Cond.codeWith_spec (hts _ List.mem_cons_self)
  cases B.named.symm.trans hn9
  cases B.method.symm.trans h1
  cases (Stand.of_body B).code.symm.trans h2
  have hl := lv_entry av (n := nL) hn
  have q := body p e s m below meth c _ ⟨B.exec, B.bytes, findClass_of_methodNamed B.named, fun w hw => hts w (List.mem_cons_of_mem _ hw), hT.1.1.2.1, hT.1.1.2.2⟩ B.notSynchronized B.returns hml hl hT htab
  rw [← lg_entry_eq] at q
  exact q
theorem xreto {r' : Int32} (C : xCx p s m args c cc own D cA) (hlk : meth.locks = false) (hr : meth.sig.returnType = some .int) (hP : xP w D cA b st' H) (ho : xout cA o v' H) (hS : va_S (xAo w b o) s.heap H locs) (hd : decode cc pc = .ok (.ireturn, 1)) (he : r' = k) : W p l e R s m args below meth c H locs 1 6 (xEo w D cA b o below args s k st' v') (F0 m pc ls [.int r']) :=
  W.iret C.1 C.2.1 hr (fun t ht _ => ⟨⟨r', (st', v'), rfl, ⟨he, rfl⟩, by show xP w D cA b st' t.heap ∧ xout cA o v' t.heap; rw [ht]; exact ⟨hP, ho⟩⟩, hS.F ht⟩) hS.2.2 hd hlk
/-- the call, the answer into the cell, 0; or the handler -/
theorem xwrap {j a i ci q0 : Nat} {T9 : u_T} {N : Nat} {ty : Nat → FieldType} (C : xCx p s m args c cc own D cA) (hlk : meth.locks = false) (hr : meth.sig.returnType = some .int) (hml : c.maxLocals = nL) (hsz : ls.size = nL) (hM : xMt w D cA b l y (Cond.code y bytes maxL ret) rm st (.ref (b + j) :: As) ex r st') (hY : xY y bytes maxL ret n) (hl : Cond.methodLink own idx y ∈ wsG) (hi : Cond.instanceMethod y ∈ wsG) (hse : Cond.selects y.cls y y ∈ wsG)
    (hR : rm.frames + 1 ≤ R.frames ∧ 8 + (maxL + 11) + rm.locals ≤ R.locals) (hc1 : 0 + rm.cells ≤ R.cells) (hs1 : 0 + rm.slots ≤ R.slots) (hO : xPreO w D cA b o v st s)
    (ho : xo w j a i) (hs : w.2.2.2.1 a = .inl ci) (hc : xcl ci y.cls T9 N ty) (hn : As.length = n) (hst : st0 = As.reverse ++ [.ref (b + j), .int 0, .ref o])
    (hdg : decode cc pc = .ok (.invokevirtual idx, 3)) (d1 : decode cc (pc + 3) = .ok (.i2l, 1)) (d2 : decode cc (pc + 3 + 1) = .ok (.lastore, 1)) {off : Int} (d3 : decode cc (pc + 3 + 1 + 1) = .ok (.goto off, 3)) (htg : ((pc + 3 + 1 + 1 : Nat) : Int) + off = (q0 : Int)) (d4 : decode cc q0 = .ok (.iconst 0, 1)) (d5 : decode cc (q0 + 1) = .ok (.ireturn, 1)) (hv' : v' = wV ex r v) (hk0 : ex = 0 → k = 0)
    (kt : ex ≠ 0 → ∀ (H1 : Heap) (L : List Loc) (q : Addr) (ce : Cell), xP w D cA b st' H1 → xout cA o v' H1 → va_S (xAo w b o) s.heap H1 L → H1[q]? = some ce → ce.vm = .none → s.vm.findClass (exN ex) = some ce.cls → xTW p l e R s m args below meth c H1 L 1 6 (xEo w D cA b o below args s k st' v') (F0 m pc ls [.int 0, .ref o]) q) :
    W p l e R s m args below meth c s.heap [] 0 0 (xEo w D cA b o below args s k st' v') (F0 m pc ls st0) := by
  obtain ⟨⟨hpre, hKT, z1, z2⟩, hNC, hout, hno⟩ := hO
  have hosz : o < s.heap.size := (Array.getElem?_eq_some_iff.mp hout).1
  refine xcT (rest := [.int 0, .ref o]) C hml hsz hM hY hl hi hse hR hc1 hs1 hpre.1 hKT z1 z2 (fun _ _ => rfl) ho hs hc hn (Nat.le_of_ble_eq_true rfl) hdg hst ?_ ?_
  · intro hex H1 L hP1 hsz1 hk1 hL
    refine W.cs (Nat.zero_add 1) (Nat.zero_add 6) ?_
    rw [List.nil_append]
    refine lv_i2l C.1 C.2.1 d1 rfl ?_
    have hout1 : xout cA o v H1 := by unfold xout; rw [hk1 o hosz hno]; exact hout
    refine W.last C.1 C.2.1 hout1 ((hpre.2.1.2 2 (cA 2, .long) rfl).1 1 (fun _ => .long v)) (fun q => by cases q) (by show ¬ ((0 : Int32) < 0 ∨ (arrV _ _ _).slots.size ≤ _); rw [arrV_size]; decide) rfl rfl d2 fun H2 e2 s2 oq => ?_
    have hP2 : xP w D cA b st' H2 := hP1.kept (fun q hq => oq q (fun z => hno (z ▸ hq)))
    have hout2 : xout cA o v' H2 := by
      unfold xout
      rw [e2, arrV_store]
      refine congrArg some (arrV_1 ?_)
      rw [hv', wV, if_pos hex]
      rfl
    have hS2 : va_S (xAo w b o) s.heap H2 (L ++ [⟨o, (0 : Int32).toNatClampNeg⟩]) := ⟨by omega, fun q h1 h2 => (oq q (fun z => h2 (Or.inr z))).trans (hk1 q h1 (fun z => h2 (Or.inl z))), fun z hz => by
      rcases List.mem_append.mp hz with h | h
      · exact Or.inl (hL z h)
      · rw [List.mem_singleton.mp h]; exact Or.inr rfl⟩
    refine lv_goto C.1 C.2.1 d3 htg ?_
    refine lv_iconst (v := 0) C.1 C.2.1 d4 (by decide) ?_
    exact xreto C hlk hr hP2 hout2 hS2 d5 (hk0 hex).symm
  · intro hex H1 L q ce hP1 hsz1 hk1 hL h1 h2 h3
    have hv9 : v' = v := by rw [hv', wV, if_neg hex]
    intro T hT X
    rw [List.nil_append] at X
    exact kt hex H1 L q ce hP1 (by unfold xout; rw [hk1 o hosz hno, hv9]; exact hout) ⟨hsz1, fun q h1 h2 => hk1 q h1 (fun z => h2 (Or.inl z)), fun z hz => Or.inl (hL z hz)⟩ h1 h2 h3 T hT X
/-- 'invokestatic' of a wrapper -/
theorem xcW {hh : List (Nat × Nat × Nat × Nat)} (C : xCx p s m args c cc own D cA) (hml : c.maxLocals = nL) (hsz : ls.size = nL) (hM : xMo w D cA b o l y (Cond.codeWith y bytes maxL ret hh) rm st v As k st' v') (hrm : rm.cells = 1 ∧ rm.slots = 6) (hcode : Cond.codeWith y bytes maxL ret hh ∈ wsG) (hini : Cond.initialized y.cls ∈ wsG) (hy : y.cls ≠ "java/lang/invoke/MethodHandle" ∧ y.cls ≠ "java/lang/invoke/VarHandle") (hlen : (parseMethodDescriptor y.desc).map (fun d => d.parameters.length) = some n)
    (hl : Cond.methodLink own idx y ∈ wsG) (hstt : Cond.static y ∈ wsG) (hR : rm.frames + 1 ≤ R.frames ∧ 8 + (maxL + 11) + rm.locals ≤ R.locals) (hc1 : cells + 1 ≤ R.cells) (hs1 : slots + 6 ≤ R.slots) (hP : xP w D cA b st H) (hT : KT s) (z1 : zst tThr "UNASSIGNED_STACK" dSte b s) (z2 : zst tThr "SUPPRESSED_SENTINEL" dLst b s) (hlow : ∀ q, q < b → H[q]? = s.heap[q]?) (hNC : xNC s) (hout : xout cA o v H) (hno : ¬ xA w b o)
    (hn : As.length = n) (hrs : (rest.map fun v => v.category).sum ≤ 8) (hdg : decode cc pc = .ok (.invokestatic idx, 3)) (hst : st0 = As.reverse ++ rest)
    (kk : ∀ (H1 : Heap) (L : List Loc), xP w D cA b st' H1 → xout cA o v' H1 → H.size ≤ H1.size → (∀ q, q < H.size → ¬ xAo w b o q → H1[q]? = H[q]?) → (∀ z ∈ L, xAo w b o z.base) → W p l e R s m args below meth c H1 (locs ++ L) (cells + 1) (slots + 6) Q (F0 m (pc + 3) ls (.int k :: rest))) :
    W p l e R s m args below meth c H locs cells slots Q (F0 m pc ls st0) := by
  subst hst
  have hblind : FrameBlind (va_Pc As (xPreO w D cA b o v st)) := by
    intro a U g mk q
    obtain ⟨q0, ⟨⟨q1, q2, q3⟩, q4, q5, q6⟩, q7, q8, q9⟩ := q
    exact ⟨q0, ⟨⟨q1, va_K.moved (u := U) (U := U.calling g mk a) (Vm.Alike.refl U.vm) q2, KN.same (u := U) (U := U.calling g mk a) rfl q3⟩, KT.same (u := U) (U := U.calling g mk a) rfl q4, q5.moved (u := U) (U := U.calling g mk a) (Vm.Alike.refl U.vm) (fun _ _ => rfl), q6.moved (u := U) (U := U.calling g mk a) (Vm.Alike.refl U.vm) (fun _ _ => rfl)⟩, q7.moved (u := U) (U := U.calling g mk a) (Vm.Alike.refl U.vm), q8, q9⟩
  have hK : Back l R p e below s args y 3 8 (PreOf R 1 6 (va_Pc As (xPreO w D cA b o v st))) (PostOf (xQo w D cA b o k st' v') 1 6 (xAo w b o)) :=
    va_backW (hh := hh) (bytes := bytes) (maxL := maxL) (ret := ret) hM hblind hrm.1 hrm.2 hR.1 hR.2 (fun x hx a' U hW => by
      have hx' : x ∈ wsG := (List.mem_cons.mp hx).elim (fun e => e ▸ hcode) id
      exact word_at hW (good_of_word (List.mem_filter.mp hx').2) (C.2.2.2.1 x hx')) List.mem_cons_self
      (fun a' U hW => word_at hW (good_of_word (List.mem_filter.mp hini).2) (C.2.2.2.1 _ hini))
  intro T hTH X
  obtain ⟨mk, methM, cM, hnamed, hmethM, -, -, -, -, -, -, hsigM⟩ := Cond.codeWith_spec (C.2.2.2.1 _ hcode)
  have hstatic : methM.isStatic = true := Cond.static_spec hnamed hmethM (C.2.2.2.1 _ hstt)
  obtain ⟨kP, hkP, -⟩ := className_of_methodNamed hnamed
  have hinitP : kP.init = .initialized := Cond.initialized_spec (findClass_of_methodNamed hnamed) hkP (C.2.2.2.1 _ hini)
  have hln : As.length = methM.sig.parameters.length := by
    rw [hsigM] at hlen
    exact hn.trans (Option.some.inj hlen).symm
  obtain ⟨vm₁, X₁, hstep₁⟩ := X.invokestatic C.1 C.2.2.1 (C.2.2.2.1 _ hl) hnamed hmethM hstatic hkP hinitP hy (g := F0 m pc ls (As.reverse ++ rest)) rfl (argsL := As) (rest := rest) hln rfl (by rw [C.2.1]; exact hdg)
  have hW₁ := X₁.warmed
  obtain ⟨v9, B, X', ⟨g', mk', t, L, e1, e2, hq, h1, hL, h2, h3⟩, hsteps⟩ := hK m meth c ⟨T.setVm vm₁, locs, cells, slots⟩ (F0 m pc ls rest) (.invokestatic idx) mk As.toArray X₁ rfl (hsz.trans hml.symm) (by rw [C.2.1]; exact hdg) (lv_room hrs) (X₁.named hnamed)
    ⟨hc1, hs1, rfl, ⟨⟨by show xP w D cA b st T.heap; rw [hTH]; exact hP, va_K.moved hW₁.alike C.2.2.2.2.1, KN.moved hW₁ C.2.2.2.2.2⟩, KT.moved hW₁ hT, z1.moved hW₁.alike (fun a ha => by show T.heap[a]? = _; rw [hTH]; exact hlow a ha), z2.moved hW₁.alike (fun a ha => by show T.heap[a]? = _; rw [hTH]; exact hlow a ha)⟩, hNC.moved hW₁.alike, by show xout cA o v T.heap; rw [hTH]; exact hout, hno⟩
  obtain ⟨U', l2, c2, s2⟩ := B
  dsimp only [Pt.U, Pt.locs, Pt.cells, Pt.slots] at X' e1 e2 h1 h2 h3 hsteps hq
  subst h1; subst h2; subst h3
  obtain ⟨⟨r9, u9, hv, ⟨rfl, rfl⟩, hb1, hb2⟩, hF1, hF2⟩ := hq
  cases hv
  have hh0 : ((T.setVm vm₁).calling g' mk' As.toArray).heap = H := hTH
  rw [hh0] at hF1 hF2
  obtain ⟨t2, a1, b1⟩ := kk U'.heap L (by rw [e1]; exact hb1) (by rw [e1]; exact hb2) (by rw [e1]; exact hF1) (fun q h1 h2 => by rw [e1]; exact hF2 q h1 h2) hL U' rfl X'
  refine ⟨t2, hstep₁ _ fun acts => ?_, b1⟩
  rw [doInvoke_state]
  exact hsteps.trans a1
end XO
