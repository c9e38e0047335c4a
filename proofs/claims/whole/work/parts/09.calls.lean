section XC
variable {p : Program} {l : Launch} {e : Env} {R : Room} {s : State} {m : MethodId} {args : Array Value} {below : List Frame} {meth : Method} {c : Code} {H : Heap} {locs : List Loc} {Q : State → Prop}
variable {cc : ByteArray} {pc : Nat} {ls : Array Slot} {rest st0 : List Value} {own : String} {D : va_G} {cA : Nat → ClassId} {w : xD} {b : Nat} {st st' : XS} {r : Int32}
variable {y : MethodName} {bytes : ByteArray} {maxL n idx nL : Nat} {ret : Option FieldType} {rm : Room} {As : List Value}
theorem xcVi {j a i ci : Nat} {T : u_T} {N : Nat} {ty : Nat → FieldType} (C : xCx p s m args c cc own D cA) (hml : c.maxLocals = nL) (hsz : ls.size = nL) (hM : xMi w D cA b l y (Cond.code y bytes maxL ret) rm st (.ref (b + j) :: As) r st') (hY : xY y bytes maxL ret n) (h0 : rm.cells = 0) (h1 : rm.slots = 0) (hl : Cond.methodLink own idx y ∈ wsG) (hi : Cond.instanceMethod y ∈ wsG) (hse : Cond.selects y.cls y y ∈ wsG) (hR : rm.frames + 1 ≤ R.frames ∧ 8 + (maxL + 11) + rm.locals ≤ R.locals) (hP : xP w D cA b st H) (hS : va_S (xA w b) s.heap H locs) (ho : xo w j a i) (hs : w.2.2.2.1 a = .inl ci) (hc : xcl ci y.cls T N ty) (hn : As.length = n) (hrs : (rest.map fun v => v.category).sum ≤ 8) (hdg : decode cc pc = .ok (.invokevirtual idx, 3)) (hst : st0 = As.reverse ++ .ref (b + j) :: rest)
    (kk : ∀ (H1 : Heap) (locs1 : List Loc), xP w D cA b st' H1 → va_S (xA w b) s.heap H1 locs1 → W p l e R s m args below meth c H1 locs1 0 0 Q (F0 m (pc + 3) ls (.int r :: rest))) : W p l e R s m args below meth c H locs 0 0 Q (F0 m pc ls st0) := by
  subst hst
  refine va_calli (va_runV (C := y.cls) (Ts := wsG) (nL := nL) (As := As) (rest := rest) ⟨C.1, C.2.1, hml, C.2.2.1, C.2.2.2.1⟩ hM ⟨xcallB C hY h0 h1 hl hR, C.2.2.2.1 _ hi, C.2.2.2.1 _ hse⟩ ⟨xPre.blind, xrecv C hP ho hs hc, xPre.at C hP⟩ rfl hn hsz rfl (lv_room hrs) hdg ⟨Nat.zero_le _, Nat.zero_le _⟩) hS (fun _ _ h => h) (fun _ h => h) ?_
  rintro r' u t H1 locs1 ht - ⟨rfl, rfl⟩ hB - - hS1
  rw [ht] at hB
  exact kk H1 locs1 hB hS1
theorem xcVv {j a i ci : Nat} {T : u_T} {N : Nat} {ty : Nat → FieldType} (C : xCx p s m args c cc own D cA) (hml : c.maxLocals = nL) (hsz : ls.size = nL) (hM : xMv w D cA b l y (Cond.code y bytes maxL ret) rm st (.ref (b + j) :: As) st') (hY : xY y bytes maxL ret n) (h0 : rm.cells = 0) (h1 : rm.slots = 0) (hl : Cond.methodLink own idx y ∈ wsG) (hi : Cond.instanceMethod y ∈ wsG) (hse : Cond.selects y.cls y y ∈ wsG) (hR : rm.frames + 1 ≤ R.frames ∧ 8 + (maxL + 11) + rm.locals ≤ R.locals) (hP : xP w D cA b st H) (hS : va_S (xA w b) s.heap H locs) (ho : xo w j a i) (hs : w.2.2.2.1 a = .inl ci) (hc : xcl ci y.cls T N ty) (hn : As.length = n) (hrs : (rest.map fun v => v.category).sum ≤ 8) (hdg : decode cc pc = .ok (.invokevirtual idx, 3)) (hst : st0 = As.reverse ++ .ref (b + j) :: rest)
    (kk : ∀ (H1 : Heap) (locs1 : List Loc), xP w D cA b st' H1 → va_S (xA w b) s.heap H1 locs1 → W p l e R s m args below meth c H1 locs1 0 0 Q (F0 m (pc + 3) ls (rest))) : W p l e R s m args below meth c H locs 0 0 Q (F0 m pc ls st0) := by
  subst hst
  refine va_callv (va_runV (C := y.cls) (Ts := wsG) (nL := nL) (As := As) (rest := rest) ⟨C.1, C.2.1, hml, C.2.2.1, C.2.2.2.1⟩ hM ⟨xcallB C hY h0 h1 hl hR, C.2.2.2.1 _ hi, C.2.2.2.1 _ hse⟩ ⟨xPre.blind, xrecv C hP ho hs hc, xPre.at C hP⟩ rfl hn hsz rfl (lv_room hrs) hdg ⟨Nat.zero_le _, Nat.zero_le _⟩) hS (fun _ _ h => h) (fun _ h => h) ?_
  rintro u t H1 locs1 ht - rfl hB - - hS1
  rw [ht] at hB
  exact kk H1 locs1 hB hS1
theorem xcVNi {j a i ci : Nat} {T : u_T} {N : Nat} {ty : Nat → FieldType} (C : xCx p s m args c cc own D cA) (hml : c.maxLocals = nL) (hsz : ls.size = nL) (hM : xMi w D cA b l y (Cond.code y bytes maxL ret) rm st (.ref (b + j) :: As) r st') (hY : xY y bytes maxL ret n) (h0 : rm.cells = 0) (h1 : rm.slots = 0) (hl : Cond.methodLinkNest own idx y "BedsideNet" ∈ tables_1) (hi : Cond.instanceMethod y ∈ wsG) (hse : Cond.selects y.cls y y ∈ wsG) (hR : rm.frames + 1 ≤ R.frames ∧ 8 + (maxL + 11) + rm.locals ≤ R.locals) (hP : xP w D cA b st H) (hS : va_S (xA w b) s.heap H locs) (ho : xo w j a i) (hs : w.2.2.2.1 a = .inl ci) (hc : xcl ci y.cls T N ty) (hn : As.length = n) (hrs : (rest.map fun v => v.category).sum ≤ 8) (hdg : decode cc pc = .ok (.invokevirtual idx, 3)) (hst : st0 = As.reverse ++ .ref (b + j) :: rest)
    (kk : ∀ (H1 : Heap) (locs1 : List Loc), xP w D cA b st' H1 → va_S (xA w b) s.heap H1 locs1 → W p l e R s m args below meth c H1 locs1 0 0 Q (F0 m (pc + 3) ls (.int r :: rest))) : W p l e R s m args below meth c H locs 0 0 Q (F0 m pc ls st0) := by
  subst hst
  refine va_calli (va_runVN (C := y.cls) (Ts := wsG) (nL := nL) (As := As) (rest := rest) ⟨C.1, C.2.1, hml, C.2.2.1, C.2.2.2.1⟩ hM ⟨xcallN C hY h0 h1 hl hR, C.2.2.2.1 _ hi, C.2.2.2.1 _ hse⟩ ⟨xPre.blind, xrecv C hP ho hs hc, xPre.at C hP⟩ rfl hn hsz rfl (lv_room hrs) hdg ⟨Nat.zero_le _, Nat.zero_le _⟩) hS (fun _ _ h => h) (fun _ h => h) ?_
  rintro r' u t H1 locs1 ht - ⟨rfl, rfl⟩ hB - - hS1
  rw [ht] at hB
  exact kk H1 locs1 hB hS1
theorem xcVNv {j a i ci : Nat} {T : u_T} {N : Nat} {ty : Nat → FieldType} (C : xCx p s m args c cc own D cA) (hml : c.maxLocals = nL) (hsz : ls.size = nL) (hM : xMv w D cA b l y (Cond.code y bytes maxL ret) rm st (.ref (b + j) :: As) st') (hY : xY y bytes maxL ret n) (h0 : rm.cells = 0) (h1 : rm.slots = 0) (hl : Cond.methodLinkNest own idx y "BedsideNet" ∈ tables_1) (hi : Cond.instanceMethod y ∈ wsG) (hse : Cond.selects y.cls y y ∈ wsG) (hR : rm.frames + 1 ≤ R.frames ∧ 8 + (maxL + 11) + rm.locals ≤ R.locals) (hP : xP w D cA b st H) (hS : va_S (xA w b) s.heap H locs) (ho : xo w j a i) (hs : w.2.2.2.1 a = .inl ci) (hc : xcl ci y.cls T N ty) (hn : As.length = n) (hrs : (rest.map fun v => v.category).sum ≤ 8) (hdg : decode cc pc = .ok (.invokevirtual idx, 3)) (hst : st0 = As.reverse ++ .ref (b + j) :: rest)
    (kk : ∀ (H1 : Heap) (locs1 : List Loc), xP w D cA b st' H1 → va_S (xA w b) s.heap H1 locs1 → W p l e R s m args below meth c H1 locs1 0 0 Q (F0 m (pc + 3) ls (rest))) : W p l e R s m args below meth c H locs 0 0 Q (F0 m pc ls st0) := by
  subst hst
  refine va_callv (va_runVN (C := y.cls) (Ts := wsG) (nL := nL) (As := As) (rest := rest) ⟨C.1, C.2.1, hml, C.2.2.1, C.2.2.2.1⟩ hM ⟨xcallN C hY h0 h1 hl hR, C.2.2.2.1 _ hi, C.2.2.2.1 _ hse⟩ ⟨xPre.blind, xrecv C hP ho hs hc, xPre.at C hP⟩ rfl hn hsz rfl (lv_room hrs) hdg ⟨Nat.zero_le _, Nat.zero_le _⟩) hS (fun _ _ h => h) (fun _ h => h) ?_
  rintro u t H1 locs1 ht - rfl hB - - hS1
  rw [ht] at hB
  exact kk H1 locs1 hB hS1
theorem xcSi (C : xCx p s m args c cc own D cA) (hml : c.maxLocals = nL) (hsz : ls.size = nL) (hM : xMi w D cA b l y (Cond.code y bytes maxL ret) rm st As r st') (hY : xY y bytes maxL ret n) (h0 : rm.cells = 0) (h1 : rm.slots = 0) (hl : Cond.methodLink own idx y ∈ wsG) (hi : Cond.static y ∈ wsG) (hR : rm.frames + 1 ≤ R.frames ∧ 8 + (maxL + 11) + rm.locals ≤ R.locals) (hP : xP w D cA b st H) (hS : va_S (xA w b) s.heap H locs) (hn : As.length = n) (hrs : (rest.map fun v => v.category).sum ≤ 8) (hdg : decode cc pc = .ok (.invokestatic idx, 3)) (hst : st0 = As.reverse ++ rest)
    (kk : ∀ (H1 : Heap) (locs1 : List Loc), xP w D cA b st' H1 → va_S (xA w b) s.heap H1 locs1 → W p l e R s m args below meth c H1 locs1 0 0 Q (F0 m (pc + 3) ls (.int r :: rest))) : W p l e R s m args below meth c H locs 0 0 Q (F0 m pc ls st0) := by
  subst hst
  refine va_calli (va_runS (Ts := wsG) (nL := nL) (As := As) (rest := rest) ⟨C.1, C.2.1, hml, C.2.2.1, C.2.2.2.1⟩ hM ⟨xcallB C hY h0 h1 hl hR, C.2.2.2.1 _ hi⟩ ⟨xPre.blind, xPre.at C hP⟩ rfl hn hsz rfl (lv_room hrs) hdg ⟨Nat.zero_le _, Nat.zero_le _⟩) hS (fun _ _ h => h) (fun _ h => h) ?_
  rintro r' u t H1 locs1 ht - ⟨rfl, rfl⟩ hB - - hS1
  rw [ht] at hB
  exact kk H1 locs1 hB hS1
theorem xcSv (C : xCx p s m args c cc own D cA) (hml : c.maxLocals = nL) (hsz : ls.size = nL) (hM : xMv w D cA b l y (Cond.code y bytes maxL ret) rm st As st') (hY : xY y bytes maxL ret n) (h0 : rm.cells = 0) (h1 : rm.slots = 0) (hl : Cond.methodLink own idx y ∈ wsG) (hi : Cond.static y ∈ wsG) (hR : rm.frames + 1 ≤ R.frames ∧ 8 + (maxL + 11) + rm.locals ≤ R.locals) (hP : xP w D cA b st H) (hS : va_S (xA w b) s.heap H locs) (hn : As.length = n) (hrs : (rest.map fun v => v.category).sum ≤ 8) (hdg : decode cc pc = .ok (.invokestatic idx, 3)) (hst : st0 = As.reverse ++ rest)
    (kk : ∀ (H1 : Heap) (locs1 : List Loc), xP w D cA b st' H1 → va_S (xA w b) s.heap H1 locs1 → W p l e R s m args below meth c H1 locs1 0 0 Q (F0 m (pc + 3) ls (rest))) : W p l e R s m args below meth c H locs 0 0 Q (F0 m pc ls st0) := by
  subst hst
  refine va_callv (va_runS (Ts := wsG) (nL := nL) (As := As) (rest := rest) ⟨C.1, C.2.1, hml, C.2.2.1, C.2.2.2.1⟩ hM ⟨xcallB C hY h0 h1 hl hR, C.2.2.2.1 _ hi⟩ ⟨xPre.blind, xPre.at C hP⟩ rfl hn hsz rfl (lv_room hrs) hdg ⟨Nat.zero_le _, Nat.zero_le _⟩) hS (fun _ _ h => h) (fun _ h => h) ?_
  rintro u t H1 locs1 ht - rfl hB - - hS1
  rw [ht] at hB
  exact kk H1 locs1 hB hS1
theorem xcSNi (C : xCx p s m args c cc own D cA) (hml : c.maxLocals = nL) (hsz : ls.size = nL) (hM : xMi w D cA b l y (Cond.code y bytes maxL ret) rm st As r st') (hY : xY y bytes maxL ret n) (h0 : rm.cells = 0) (h1 : rm.slots = 0) (hl : Cond.methodLinkNest own idx y "BedsideNet" ∈ tables_1) (hi : Cond.static y ∈ wsG) (hR : rm.frames + 1 ≤ R.frames ∧ 8 + (maxL + 11) + rm.locals ≤ R.locals) (hP : xP w D cA b st H) (hS : va_S (xA w b) s.heap H locs) (hn : As.length = n) (hrs : (rest.map fun v => v.category).sum ≤ 8) (hdg : decode cc pc = .ok (.invokestatic idx, 3)) (hst : st0 = As.reverse ++ rest)
    (kk : ∀ (H1 : Heap) (locs1 : List Loc), xP w D cA b st' H1 → va_S (xA w b) s.heap H1 locs1 → W p l e R s m args below meth c H1 locs1 0 0 Q (F0 m (pc + 3) ls (.int r :: rest))) : W p l e R s m args below meth c H locs 0 0 Q (F0 m pc ls st0) := by
  subst hst
  refine va_calli (va_runSN (Ts := wsG) (nL := nL) (As := As) (rest := rest) ⟨C.1, C.2.1, hml, C.2.2.1, C.2.2.2.1⟩ hM ⟨xcallN C hY h0 h1 hl hR, C.2.2.2.1 _ hi, trivial⟩ ⟨xPre.blind, xPre.at C hP⟩ rfl hn hsz rfl (lv_room hrs) hdg ⟨Nat.zero_le _, Nat.zero_le _⟩) hS (fun _ _ h => h) (fun _ h => h) ?_
  rintro r' u t H1 locs1 ht - ⟨rfl, rfl⟩ hB - - hS1
  rw [ht] at hB
  exact kk H1 locs1 hB hS1
theorem xcSNv (C : xCx p s m args c cc own D cA) (hml : c.maxLocals = nL) (hsz : ls.size = nL) (hM : xMv w D cA b l y (Cond.code y bytes maxL ret) rm st As st') (hY : xY y bytes maxL ret n) (h0 : rm.cells = 0) (h1 : rm.slots = 0) (hl : Cond.methodLinkNest own idx y "BedsideNet" ∈ tables_1) (hi : Cond.static y ∈ wsG) (hR : rm.frames + 1 ≤ R.frames ∧ 8 + (maxL + 11) + rm.locals ≤ R.locals) (hP : xP w D cA b st H) (hS : va_S (xA w b) s.heap H locs) (hn : As.length = n) (hrs : (rest.map fun v => v.category).sum ≤ 8) (hdg : decode cc pc = .ok (.invokestatic idx, 3)) (hst : st0 = As.reverse ++ rest)
    (kk : ∀ (H1 : Heap) (locs1 : List Loc), xP w D cA b st' H1 → va_S (xA w b) s.heap H1 locs1 → W p l e R s m args below meth c H1 locs1 0 0 Q (F0 m (pc + 3) ls (rest))) : W p l e R s m args below meth c H locs 0 0 Q (F0 m pc ls st0) := by
  subst hst
  refine va_callv (va_runSN (Ts := wsG) (nL := nL) (As := As) (rest := rest) ⟨C.1, C.2.1, hml, C.2.2.1, C.2.2.2.1⟩ hM ⟨xcallN C hY h0 h1 hl hR, C.2.2.2.1 _ hi, trivial⟩ ⟨xPre.blind, xPre.at C hP⟩ rfl hn hsz rfl (lv_room hrs) hdg ⟨Nat.zero_le _, Nat.zero_le _⟩) hS (fun _ _ h => h) (fun _ h => h) ?_
  rintro u t H1 locs1 ht - rfl hB - - hS1
  rw [ht] at hB
  exact kk H1 locs1 hB hS1
end XC
