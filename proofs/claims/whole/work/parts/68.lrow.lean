/-! the law: both worlds, the script, the cell of the answer -/
def nzb (x : Int32) : Int32 := if x = 0 then 0 else 1
theorem nzb_z (x : Int32) : bz (nzb x) = nzb x := by
  unfold nzb
  split
  · exact bz_0
  · exact bz_1
def LA0 (s : State) : Nat → Prop := fun q => s.heap.size ≤ q
/-- what stays: the law's frame, the tables, the script, where the worlds lie -/
def LC (p : Program) (l : Launch) (s : State) (m : MethodId) (meth : Method) (c : Code) (D : va_G) (cA : Nat → ClassId) (b0 L : Nat) (xs : Nat → Int32) (b1 b2 o : Nat) : Prop :=
  xCx p s m #[.ref b0] c b_LA_law R_LA D cA ∧ l.stackTraces = false ∧ c.maxLocals = 7 ∧ KT s ∧ zst tThr "UNASSIGNED_STACK" dSte b1 s ∧ zst tThr "SUPPRESSED_SENTINEL" dLst b1 s ∧ xNC s ∧ va_X b0 L xs s s.heap ∧ b0 < s.heap.size ∧ L ≤ 3072 ∧ b1 = s.heap.size ∧ b1 + 349 ≤ b2 ∧ b2 + 56 ≤ o
/-- what the heap holds -/
def LV (D : va_G) (cA : Nat → ClassId) (s : State) (b1 b2 o : Nat) (st mt : XS) (v : Int64) (H : Heap) (locs : List Loc) : Prop := xP cw D cA b1 st H ∧ xP mw D cA b2 mt H ∧ xout cA o v H ∧ va_S (LA0 s) s.heap H locs
theorem xP.lt {w : xD} {D : va_G} {cA : Nat → ClassId} {b : Nat} {st : XS} {H : Heap} (h : xP w D cA b st H) {q : Nat} (hq : xA w b q) : q < H.size := by
  have h2 := h (q - b) (by have := hq.1; have := hq.2; omega)
  have e : b + (q - b) = q := by have := hq.1; omega
  unfold xat at h2
  split at h2
  · obtain ⟨r, q1, cell, q2, -⟩ := h2
    rw [e] at q2
    exact (Array.getElem?_eq_some_iff.mp q2).1
  · rw [e] at h2
    exact (Array.getElem?_eq_some_iff.mp h2).1
theorem xout.lt {cA : Nat → ClassId} {o : Nat} {v : Int64} {H : Heap} (h : xout cA o v H) : o < H.size := (Array.getElem?_eq_some_iff.mp h).1
abbrev LL (b0 b1 b2 o k : Nat) : List (Nat × Value) := [(0, .ref b0), (1, .ref (b1 + 0)), (2, .ref (b2 + 0)), (3, .ref o), (4, .int (nI (6 * k)))]
section LRW
variable {p : Program} {l : Launch} {e : Env} {R : Room} {s : State} {m : MethodId} {args : Array Value} {below : List Frame} {meth : Method} {c : Code} {H : Heap} {locs : List Loc} {cells slots : Nat} {Q : State → Prop}
variable {pc : Nat} {ls : Array Slot} {rest S0 : List Value} {D : va_G} {cA : Nat → ClassId} {st st' mt mt' : XS} {r : Int32} {v v' : Int64} {b0 L b1 b2 o k : Nat} {xs : Nat → Int32}
variable {y : MethodName} {bytes : ByteArray} {maxL n idx : Nat} {ret : Option FieldType} {rm : Room} {As : List Value}
/-- one of the script's numbers -/
theorem larg (K : LC p l s m meth c D cA b0 L xs b1 b2 o) (hV : LV D cA s b1 b2 o st mt v H locs) {lv : List (Nat × Value)} (hl : lv_has ls 7 lv) {i0 i4 : Nat} (h0 : lv[i0]? = some (0, .ref b0)) (h4 : lv[i4]? = some (4, .int (nI (6 * k)))) {j : Nat} {jv : Int} (hj : Int32.ofInt jv = nI j) (hin : 6 * k + j < L) (d0 : decode b_LA_law pc = .ok (.aload_n 0, 1)) (d1 : decode b_LA_law (pc + 1) = .ok (.iload 4, 2)) (d2 : decode b_LA_law (pc + 1 + 2) = .ok (.iconst jv, 1)) (d3 : decode b_LA_law (pc + 1 + 2 + 1) = .ok (.iadd, 1)) (d4 : decode b_LA_law (pc + 1 + 2 + 1 + 1) = .ok (.iaload, 1))
    (kk : W p l e R s m #[.ref b0] below meth c H locs cells slots Q (F0 m (pc + 1 + 2 + 1 + 1 + 1) ls (.int (xs (6 * k + j)) :: rest))) : W p l e R s m #[.ref b0] below meth c H locs cells slots Q (F0 m pc ls rest) := by
  obtain ⟨C, -, -, -, -, -, -, hX, hbl, hL, hb1, -, -⟩ := K
  refine lv_aload_n C.1 C.2.1 d0 rfl (lv_at hl i0 h0) ?_
  refine lv_iload C.1 C.2.1 d1 (lv_at hl i4 h4) ?_
  refine lv_iconst (v := nI j) C.1 C.2.1 d2 hj ?_
  refine lv_iadd C.1 C.2.1 d3 ?_
  rw [nI_add]
  refine va_sld (A := LA0 s) C.1 C.2.1 hX hbl (fun z => by unfold LA0 at z; omega) hV.2.2.2 (vp_in_nI hin (by omega)) d4 ?_
  rw [nI_clamp (by omega)]
  exact kk
theorem lnz (hx : p.tables.exec = Jvm.exec) (hb : c.code = b_LA_law) {x : Int32} {off1 off2 : Int} {t1 t2 : Nat} (d0 : decode b_LA_law pc = .ok (.ifCond .eq off1, 3)) (h1 : (pc : Int) + off1 = (t1 : Int)) (d1 : decode b_LA_law (pc + 3) = .ok (.iconst 1, 1)) (d2 : decode b_LA_law (pc + 3 + 1) = .ok (.goto off2, 3)) (h2 : ((pc + 3 + 1 : Nat) : Int) + off2 = (t2 : Int)) (d3 : decode b_LA_law t1 = .ok (.iconst 0, 1)) (h3 : t1 + 1 = t2)
    (kk : W p l e R s m args below meth c H locs cells slots Q (F0 m t2 ls (.int (nzb x) :: rest))) : W p l e R s m args below meth c H locs cells slots Q (F0 m pc ls (.int x :: rest)) := by
  unfold nzb at kk
  refine lv_if_eq (tgt := t1) hx hb d0 h1 (fun z => ?_) (fun z => ?_)
  · refine lv_iconst (v := 0) hx hb d3 (by decide) ?_
    rw [if_pos z] at kk
    rw [h3]
    exact kk
  · refine lv_iconst (v := 1) hx hb d1 (by decide) ?_
    refine lv_goto (tgt := t2) hx hb d2 h2 ?_
    rw [if_neg z] at kk
    exact kk
/-- a call of the class -/
theorem lcB (K : LC p l s m meth c D cA b0 L xs b1 b2 o) (hV : LV D cA s b1 b2 o st mt v H locs) (hsz : ls.size = 7) (hM : xMi cw D cA b1 l y (Cond.code y bytes maxL ret) rm st (.ref (b1 + 0) :: As) r st') (hY : xY y bytes maxL ret n) (h0 : rm.cells = 0) (h1 : rm.slots = 0) (hl : Cond.methodLink R_LA idx y ∈ wsG) (hi : Cond.instanceMethod y ∈ wsG) (hse : Cond.selects y.cls y y ∈ wsG) (hR : rm.frames + 1 ≤ R.frames ∧ 8 + (maxL + 11) + rm.locals ≤ R.locals) (hcs : cells ≤ R.cells ∧ slots ≤ R.slots) {T : u_T} {N : Nat} {ty : Nat → FieldType} (hc : xcl 10 y.cls T N ty) (hn : As.length = n) (hrs : (rest.map fun v => v.category).sum ≤ 8) (hdg : decode b_LA_law pc = .ok (.invokevirtual idx, 3)) (hst : S0 = As.reverse ++ .ref (b1 + 0) :: rest)
    (kk : ∀ (H1 : Heap) (locs1 : List Loc), LV D cA s b1 b2 o st' mt v H1 locs1 → W p l e R s m #[.ref b0] below meth c H1 locs1 cells slots Q (F0 m (pc + 3) ls (.int r :: rest))) : W p l e R s m #[.ref b0] below meth c H locs cells slots Q (F0 m pc ls S0) := by
  obtain ⟨C, -, hml, -, -, -, -, hX, hbl, hL, hb1, hb2, hbo⟩ := K
  obtain ⟨hP1, hP2, hO, hS⟩ := hV
  refine xcGi C hml hsz hM hY h0 h1 hl hi hse hR hcs hP1 hS (fun q hq => by have := hq.1; unfold LA0; omega) o_BN rfl hc hn hrs hdg hst (fun H1 locs1 hP hz hk hS1 => ?_)
  refine kk H1 locs1 ⟨hP, hP2.kept (fun q hq => hk q (hP2.lt hq) (fun z => ?_)), ?_, hS1⟩
  · have h1 := hq.1
    have h2 : q < b1 + 349 := z.2
    omega
  · unfold xout
    rw [hk o hO.lt (fun z => by have h2 : o < b1 + 349 := z.2; omega)]
    exact hO
/-- a call of the reference -/
theorem lcM (K : LC p l s m meth c D cA b0 L xs b1 b2 o) (hV : LV D cA s b1 b2 o st mt v H locs) (hsz : ls.size = 7) (hM : xMi mw D cA b2 l y (Cond.code y bytes maxL ret) rm mt (.ref (b2 + 0) :: As) r mt') (hY : xY y bytes maxL ret n) (h0 : rm.cells = 0) (h1 : rm.slots = 0) (hl : Cond.methodLink R_LA idx y ∈ wsG) (hi : Cond.instanceMethod y ∈ wsG) (hse : Cond.selects y.cls y y ∈ wsG) (hR : rm.frames + 1 ≤ R.frames ∧ 8 + (maxL + 11) + rm.locals ≤ R.locals) (hcs : cells ≤ R.cells ∧ slots ≤ R.slots) {T : u_T} {N : Nat} {ty : Nat → FieldType} (hc : xcl 11 y.cls T N ty) (hn : As.length = n) (hrs : (rest.map fun v => v.category).sum ≤ 8) (hdg : decode b_LA_law pc = .ok (.invokevirtual idx, 3)) (hst : S0 = As.reverse ++ .ref (b2 + 0) :: rest)
    (kk : ∀ (H1 : Heap) (locs1 : List Loc), LV D cA s b1 b2 o st mt' v H1 locs1 → W p l e R s m #[.ref b0] below meth c H1 locs1 cells slots Q (F0 m (pc + 3) ls (.int r :: rest))) : W p l e R s m #[.ref b0] below meth c H locs cells slots Q (F0 m pc ls S0) := by
  obtain ⟨C, -, hml, -, -, -, -, hX, hbl, hL, hb1, hb2, hbo⟩ := K
  obtain ⟨hP1, hP2, hO, hS⟩ := hV
  refine xcGi C hml hsz hM hY h0 h1 hl hi hse hR hcs hP2 hS (fun q hq => by have := hq.1; unfold LA0; omega) o_MO rfl hc hn hrs hdg hst (fun H1 locs1 hP hz hk hS1 => ?_)
  refine kk H1 locs1 ⟨hP1.kept (fun q hq => hk q (hP1.lt hq) (fun z => ?_)), hP, ?_, hS1⟩
  · have h1 := z.1
    have h2 : q < b1 + 349 := hq.2
    omega
  · unfold xout
    rw [hk o hO.lt (fun z => by have h2 : o < b2 + 56 := z.2; omega)]
    exact hO
/-- a wrapper's call -/
theorem lcW {hh : List (Nat × Nat × Nat × Nat)} {kr : Int32} (K : LC p l s m meth c D cA b0 L xs b1 b2 o) (hV : LV D cA s b1 b2 o st mt v H locs) (hsz : ls.size = 7) (hM : xMo cw D cA b1 o l y (Cond.codeWith y bytes maxL ret hh) rm st v As kr st' v') (hrm : rm.cells = 1 ∧ rm.slots = 6) (hcode : Cond.codeWith y bytes maxL ret hh ∈ wsG) (hini : Cond.initialized y.cls ∈ wsG) (hy : y.cls ≠ "java/lang/invoke/MethodHandle" ∧ y.cls ≠ "java/lang/invoke/VarHandle") (hlen : (parseMethodDescriptor y.desc).map (fun d => d.parameters.length) = some n)
    (hl : Cond.methodLink R_LA idx y ∈ wsG) (hstt : Cond.static y ∈ wsG) (hR : rm.frames + 1 ≤ R.frames ∧ 8 + (maxL + 11) + rm.locals ≤ R.locals) (hc1 : cells + 1 ≤ R.cells) (hs1 : slots + 6 ≤ R.slots) (hn : As.length = n) (hrs : (rest.map fun v => v.category).sum ≤ 8) (hdg : decode b_LA_law pc = .ok (.invokestatic idx, 3)) (hst : S0 = As.reverse ++ rest)
    (kk : ∀ (H1 : Heap) (locs1 : List Loc), LV D cA s b1 b2 o st' mt v' H1 locs1 → W p l e R s m #[.ref b0] below meth c H1 locs1 (cells + 1) (slots + 6) Q (F0 m (pc + 3) ls (.int kr :: rest))) : W p l e R s m #[.ref b0] below meth c H locs cells slots Q (F0 m pc ls S0) := by
  obtain ⟨C, -, hml, hKT, z1, z2, hNC, hX, hbl, hL, hb1, hb2, hbo⟩ := K
  obtain ⟨hP1, hP2, hO, hS⟩ := hV
  have hno : ¬ xA cw b1 o := fun z => by have h2 : o < b1 + 349 := z.2; omega
  refine xcW C hml hsz hM hrm hcode hini hy hlen hl hstt hR hc1 hs1 hP1 hKT z1 z2 (fun q hq => hS.2.1 q (by omega) (fun z => by unfold LA0 at z; omega)) hNC hO hno hn hrs hdg hst (fun H1 L1 hP hO1 hz hk hLs => ?_)
  refine kk H1 (locs ++ L1) ⟨hP, hP2.kept (fun q hq => hk q (hP2.lt hq) (fun z => ?_)), hO1, ⟨by have := hS.1; omega, fun q h1 h2 => ?_, fun z hz => ?_⟩⟩
  · have h3 := hq.1
    have h4 : q < b2 + 56 := hq.2
    rcases z with z | z
    · have h2 : q < b1 + 349 := z.2
      omega
    · omega
  · have hlt : q < s.heap.size := h1
    rw [hk q (by have := hS.1; omega) (fun z => by
      rcases z with z | z
      · have := z.1; omega
      · omega)]
    exact hS.2.1 q h1 h2
  · rcases List.mem_append.mp hz with h | h
    · exact hS.2.2 z h
    · rcases hLs z h with y9 | y9
      · have := y9.1; unfold LA0; omega
      · unfold LA0; omega
/-- the end of a case: equal answers -/
theorem lend (K : LC p l s m meth c D cA b0 L xs b1 b2 o) {x y9 : Int32} {off : Int} (he : x = y9) (hd : decode b_LA_law pc = .ok (.if_icmp .eq off, 3)) (ht : (pc : Int) + off = ((1332 : Nat) : Int)) (kk : W p l e R s m #[.ref b0] below meth c H locs cells slots Q (F0 m 1332 ls [])) : W p l e R s m #[.ref b0] below meth c H locs cells slots Q (F0 m pc ls [.int y9, .int x]) :=
  lv_icmp_eq (tgt := 1332) K.1.1 K.1.2.1 hd ht (fun _ => kk) (fun z => absurd he z)
/-- the end of a case that may throw: the code thrown, then the answers -/
theorem lendT (K : LC p l s m meth c D cA b0 L xs b1 b2 o) (hV : LV D cA s b1 b2 o st mt v H locs) {lv : List (Nat × Value)} (hl : lv_has ls 7 lv) {i2 i3 i5 i6 : Nat} {kr w9 : Int32} (h2 : lv[i2]? = some (2, .ref (b2 + 0))) (h3 : lv[i3]? = some (3, .ref o)) (h5 : lv[i5]? = some (5, .int kr)) (h6 : lv[i6]? = some (6, .int w9)) (hth : mt 0 0 0 = kr) (hv : kr = 0 → v = w9.toInt64) (hcs : cells ≤ R.cells ∧ slots ≤ R.slots) (hR : 1 ≤ R.frames ∧ 20 ≤ R.locals) {o1 o2 o3 o4 : Int} {t1 t2 : Nat}
    (d0 : decode b_LA_law pc = .ok (.aload_n 2, 1)) (d1 : decode b_LA_law (pc + 1) = .ok (.invokevirtual 57, 3)) (d2 : decode b_LA_law (pc + 1 + 3) = .ok (.iload 5, 2)) (d3 : decode b_LA_law (pc + 1 + 3 + 2) = .ok (.if_icmp .eq o1, 3)) (e1 : ((pc + 1 + 3 + 2 : Nat) : Int) + o1 = (t1 : Int)) (d4 : decode b_LA_law t1 = .ok (.iload 5, 2)) (d5 : decode b_LA_law (t1 + 2) = .ok (.ifCond .ne o2, 3)) (e2 : ((t1 + 2 : Nat) : Int) + o2 = (t2 : Int)) (d6 : decode b_LA_law (t1 + 2 + 3) = .ok (.aload_n 3, 1)) (d7 : decode b_LA_law (t1 + 2 + 3 + 1) = .ok (.iconst 0, 1)) (d8 : decode b_LA_law (t1 + 2 + 3 + 1 + 1) = .ok (.laload, 1)) (d9 : decode b_LA_law (t1 + 2 + 3 + 1 + 1 + 1) = .ok (.iload 6, 2)) (d10 : decode b_LA_law (t1 + 2 + 3 + 1 + 1 + 1 + 2) = .ok (.i2l, 1)) (d11 : decode b_LA_law (t1 + 2 + 3 + 1 + 1 + 1 + 2 + 1) = .ok (.lcmp, 1)) (d12 : decode b_LA_law (t1 + 2 + 3 + 1 + 1 + 1 + 2 + 1 + 1) = .ok (.ifCond .eq o3, 3)) (e3 : ((t1 + 2 + 3 + 1 + 1 + 1 + 2 + 1 + 1 : Nat) : Int) + o3 = (t2 : Int)) (d13 : decode b_LA_law t2 = .ok (.goto o4, 3)) (e4 : (t2 : Int) + o4 = ((1332 : Nat) : Int))
    (kk : ∀ (H1 : Heap) (locs1 : List Loc), LV D cA s b1 b2 o st mt v H1 locs1 → W p l e R s m #[.ref b0] below meth c H1 locs1 cells slots Q (F0 m 1332 ls [])) : W p l e R s m #[.ref b0] below meth c H locs cells slots Q (F0 m pc ls []) := by
  have C := K.1
  refine lv_aload_n C.1 C.2.1 d0 rfl (lv_at hl i2 h2) ?_
  refine lcM K hV hl.1 (k_MO_thrown l D cA b2 mt) q_MO_thrown rfl rfl wg_1065 wg_1066 wg_1067 ⟨hR.1, hR.2⟩ hcs c_MO rfl (Nat.zero_le _) d1 rfl (fun H1 locs1 hV1 => ?_)
  have hfin := kk H1 locs1 hV1
  have hgo : W p l e R s m #[.ref b0] below meth c H1 locs1 cells slots Q (F0 m t2 ls []) := lv_goto (tgt := 1332) C.1 C.2.1 d13 e4 hfin
  refine lv_iload C.1 C.2.1 d2 (lv_at hl i5 h5) ?_
  refine lv_icmp_eq (tgt := t1) C.1 C.2.1 d3 e1 (fun _ => ?_) (fun z => absurd hth z)
  refine lv_iload C.1 C.2.1 d4 (lv_at hl i5 h5) ?_
  refine lv_if_ne (tgt := t2) C.1 C.2.1 d5 e2 (fun _ => hgo) (fun z => ?_)
  refine lv_aload_n C.1 C.2.1 d6 rfl (lv_at hl i3 h3) ?_
  refine lv_iconst (v := 0) C.1 C.2.1 d7 (by decide) ?_
  refine W.lald (v := .long v) C.1 C.2.1 hV1.2.2.1 ((C.2.2.2.2.1.2 2 (cA 2, .long) rfl).1 1 (fun _ => .long v)) (fun q => by cases q) (by show ¬ ((0 : Int32) < 0 ∨ (arrV _ _ _).slots.size ≤ _); rw [arrV_size]; decide) (by show (arrV _ _ _).slots[_]? = _; exact arrV_read _ _ (by decide)) rfl rfl d8 ?_
  refine lv_iload C.1 C.2.1 d9 (lv_at hl i6 h6) ?_
  refine lv_i2l C.1 C.2.1 d10 rfl ?_
  refine W.lcmp C.1 C.2.1 d11 ?_
  refine lv_if_eq (tgt := t2) C.1 C.2.1 d12 e3 (fun _ => hgo) (fun y9 => absurd ((lg_cmp_eq _ _).mpr (hv z)) y9)
end LRW
