def v0M : Nat → Value := fun k => if k = 0 ∨ k = 1 ∨ k = 2 ∨ k = 3 ∨ k = 39 ∨ k = 48 ∨ k = 56 then .int 0 else .null
set_option maxRecDepth 100000 in
theorem v_MO : ∀ k, k < 62 → defaultValue (t_MO k) = v0M k := by
  refine lt_s (i := 61) ?_ rfl
  refine lt_s (i := 60) ?_ rfl
  refine lt_s (i := 59) ?_ rfl
  refine lt_s (i := 58) ?_ rfl
  refine lt_s (i := 57) ?_ rfl
  refine lt_s (i := 56) ?_ rfl
  refine lt_s (i := 55) ?_ rfl
  refine lt_s (i := 54) ?_ rfl
  refine lt_s (i := 53) ?_ rfl
  refine lt_s (i := 52) ?_ rfl
  refine lt_s (i := 51) ?_ rfl
  refine lt_s (i := 50) ?_ rfl
  refine lt_s (i := 49) ?_ rfl
  refine lt_s (i := 48) ?_ rfl
  refine lt_s (i := 47) ?_ rfl
  refine lt_s (i := 46) ?_ rfl
  refine lt_s (i := 45) ?_ rfl
  refine lt_s (i := 44) ?_ rfl
  refine lt_s (i := 43) ?_ rfl
  refine lt_s (i := 42) ?_ rfl
  refine lt_s (i := 41) ?_ rfl
  refine lt_s (i := 40) ?_ rfl
  refine lt_s (i := 39) ?_ rfl
  refine lt_s (i := 38) ?_ rfl
  refine lt_s (i := 37) ?_ rfl
  refine lt_s (i := 36) ?_ rfl
  refine lt_s (i := 35) ?_ rfl
  refine lt_s (i := 34) ?_ rfl
  refine lt_s (i := 33) ?_ rfl
  refine lt_s (i := 32) ?_ rfl
  refine lt_s (i := 31) ?_ rfl
  refine lt_s (i := 30) ?_ rfl
  refine lt_s (i := 29) ?_ rfl
  refine lt_s (i := 28) ?_ rfl
  refine lt_s (i := 27) ?_ rfl
  refine lt_s (i := 26) ?_ rfl
  refine lt_s (i := 25) ?_ rfl
  refine lt_s (i := 24) ?_ rfl
  refine lt_s (i := 23) ?_ rfl
  refine lt_s (i := 22) ?_ rfl
  refine lt_s (i := 21) ?_ rfl
  refine lt_s (i := 20) ?_ rfl
  refine lt_s (i := 19) ?_ rfl
  refine lt_s (i := 18) ?_ rfl
  refine lt_s (i := 17) ?_ rfl
  refine lt_s (i := 16) ?_ rfl
  refine lt_s (i := 15) ?_ rfl
  refine lt_s (i := 14) ?_ rfl
  refine lt_s (i := 13) ?_ rfl
  refine lt_s (i := 12) ?_ rfl
  refine lt_s (i := 11) ?_ rfl
  refine lt_s (i := 10) ?_ rfl
  refine lt_s (i := 9) ?_ rfl
  refine lt_s (i := 8) ?_ rfl
  refine lt_s (i := 7) ?_ rfl
  refine lt_s (i := 6) ?_ rfl
  refine lt_s (i := 5) ?_ rfl
  refine lt_s (i := 4) ?_ rfl
  refine lt_s (i := 3) ?_ rfl
  refine lt_s (i := 2) ?_ rfl
  refine lt_s (i := 1) ?_ rfl
  refine lt_s (i := 0) ?_ rfl
  exact lt_0
def m00 : XS := fun _ _ _ => 0
/-- the arrays made so far -/
def mF (D : va_G) (cA : Nat → ClassId) (a i : Nat) (H : Heap) : Prop := ∀ j, 1 ≤ j → j ≤ i → xat mw D cA a m00 j H
theorem mF_0 {D : va_G} {cA : Nat → ClassId} {a : Nat} {H : Heap} : mF D cA a 0 H := fun j h1 h2 => by omega
theorem mF_step {D : va_G} {cA : Nat → ClassId} {a i : Nat} {H H1 : Heap} (hF : mF D cA a i H) (ho : ∀ q, q < a + (i + 1) → H1[q]? = H[q]?) (hx : xat mw D cA a m00 (i + 1) H1) : mF D cA a (i + 1) H1 := fun j h1 h2 => by
  by_cases e : j = i + 1
  · subst e; exact hx
  · exact (hF j h1 (by omega)).kept (ho _ (by omega)) (fun _ => rfl)
theorem mF_put {D : va_G} {cA : Nat → ClassId} {a i : Nat} {H H1 : Heap} (hF : mF D cA a i H) (ho : ∀ q, q ≠ a → H1[q]? = H[q]?) : mF D cA a i H1 := fun j h1 h2 => (hF j h1 h2).kept (ho _ (by omega)) (fun _ => rfl)
section YMK
variable {p : Program} {l : Launch} {e : Env} {R : Room} {s : State} {m : MethodId} {args : Array Value} {below : List Frame} {meth : Method} {c : Code} {H : Heap} {locs : List Loc} {cells slots : Nat} {Q : State → Prop}
variable {pc : Nat} {ls : Array Slot} {D : va_G} {cA : Nat → ClassId} {a : Nat}
/-- one array of the reference, into its field -/
theorem ymk (C : xCx p s m args c b_MO_init y_MO_init.cls D cA) (hin : meth.name = "<init>") {atype : ArrayType} {ty : FieldType} {t N i k ix : Nat} {n : Int32} {V : Nat → Value} (harr : Cond.arrayClass (newarray.typeOf atype) ∈ wsG) (hty : newarray.typeOf atype = ty) (hno : ∀ C, ty ≠ .object C) (ht : (xTy cA)[t]? = some (cA t, ty)) (hn : ¬ n < 0) (hN : n.toNatClampNeg = N) (hby : N * componentBytes (newarray.typeOf atype) ≤ 536870912) (hcells : cells + 1 ≤ R.cells) (hslots : slots + N ≤ R.slots) (ho : xo mw (i + 1) (i + 1) 0) (hs : mw.2.2.2.1 (i + 1) = .inr (t, N)) (hv : ∀ k, k < N → defaultValue ty = mw.2.2.1 a (i + 1) 0 k (m00 (i + 1) k 0)) (hk : k < 62) (hlink : Cond.fieldLink y_MO_init.cls ix (F_MO k).1 (F_MO k).2.1 (F_MO k).2.2.1 ∈ wsG) (hfin : (F_MO k).2.2.2 = true) (hdecl : (F_MO k).1 = y_MO_init.cls) (hnr : narrow (t_MO k) (.ref (a + (i + 1))) = .ref (a + (i + 1))) (hfit : fits (t_MO k) (.ref (a + (i + 1))) = true) (hz : H.size = a + (i + 1)) (hT : xob D 11 a V H) (hF : mF D cA a i H) (hS : va_S (xA mw a) s.heap H locs) (d2 : decode b_MO_init pc = .ok (.newarray atype, 2)) (d3 : decode b_MO_init (pc + 2) = .ok (.putfield ix, 3))
    (kk : ∀ (H1 : Heap) (locs1 : List Loc), H1.size = a + (i + 1 + 1) → xob D 11 a (updV V k (.ref (a + (i + 1)))) H1 → mF D cA a (i + 1) H1 → va_S (xA mw a) s.heap H1 locs1 → W p l e R s m args below meth c H1 locs1 (cells + 1) (slots + N) Q (F0 m (pc + 2 + 3) ls [])) : W p l e R s m args below meth c H locs cells slots Q (F0 m pc ls [.int n, .ref a]) := by
  refine ynewa C harr hty hno ht hz hn hN hby hcells hslots hS d2 (fun H1 h9 hz1 o1 hS1 => ?_)
  have hT1 := hT.kept (o1 _ (by omega))
  have hF1 := mF_step hF o1 (xat_ar ho hs h9 rfl hv)
  refine yputF C hin c_MO hT1 hk hlink hfin hdecl hnr hfit hS1 ⟨Nat.le_refl _, Nat.lt_add_of_pos_right (by decide)⟩ d3 (fun H2 locs2 hT2 hz2 o2 hS2 => ?_)
  exact kk H2 locs2 (hz2.trans hz1) hT2 (mF_put hF1 o2) hS2
end YMK
def vMO (a : Nat) : Nat → Value := (updV (updV (updV (updV (updV (updV (updV (updV (updV (updV (updV (updV (updV (updV (updV (updV (updV (updV (updV (updV (updV (updV (updV (updV (updV (updV (updV (updV (updV (updV (updV (updV (updV (updV (updV (updV (updV (updV (updV (updV (updV (updV (updV (updV (updV (updV (updV (updV (updV (updV (updV (updV (updV (updV (updV v0M 4 (.ref (a + 1))) 5 (.ref (a + 2))) 6 (.ref (a + 3))) 7 (.ref (a + 4))) 8 (.ref (a + 5))) 9 (.ref (a + 6))) 10 (.ref (a + 7))) 11 (.ref (a + 8))) 12 (.ref (a + 9))) 13 (.ref (a + 10))) 14 (.ref (a + 11))) 15 (.ref (a + 12))) 16 (.ref (a + 13))) 17 (.ref (a + 14))) 18 (.ref (a + 15))) 19 (.ref (a + 16))) 20 (.ref (a + 17))) 21 (.ref (a + 18))) 22 (.ref (a + 19))) 23 (.ref (a + 20))) 24 (.ref (a + 21))) 25 (.ref (a + 22))) 26 (.ref (a + 23))) 27 (.ref (a + 24))) 28 (.ref (a + 25))) 29 (.ref (a + 26))) 30 (.ref (a + 27))) 31 (.ref (a + 28))) 32 (.ref (a + 29))) 33 (.ref (a + 30))) 34 (.ref (a + 31))) 35 (.ref (a + 32))) 36 (.ref (a + 33))) 37 (.ref (a + 34))) 38 (.ref (a + 35))) 40 (.ref (a + 36))) 41 (.ref (a + 37))) 42 (.ref (a + 38))) 43 (.ref (a + 39))) 44 (.ref (a + 40))) 45 (.ref (a + 41))) 46 (.ref (a + 42))) 47 (.ref (a + 43))) 49 (.ref (a + 44))) 50 (.ref (a + 45))) 51 (.ref (a + 46))) 52 (.ref (a + 47))) 53 (.ref (a + 48))) 54 (.ref (a + 49))) 55 (.ref (a + 50))) 57 (.ref (a + 51))) 58 (.ref (a + 52))) 59 (.ref (a + 53))) 60 (.ref (a + 54))) 61 (.ref (a + 55)))
set_option maxRecDepth 100000 in
theorem at_MO {D : va_G} {cA : Nat → ClassId} {a : Nat} {H : Heap} (h : xob D 11 a (vMO a) H) : xat mw D cA a m00 0 H := by
  refine xat_ob o_MO rfl c_MO h rfl ?_
  refine lt_s (i := 61) ?_ rfl
  refine lt_s (i := 60) ?_ rfl
  refine lt_s (i := 59) ?_ rfl
  refine lt_s (i := 58) ?_ rfl
  refine lt_s (i := 57) ?_ rfl
  refine lt_s (i := 56) ?_ rfl
  refine lt_s (i := 55) ?_ rfl
  refine lt_s (i := 54) ?_ rfl
  refine lt_s (i := 53) ?_ rfl
  refine lt_s (i := 52) ?_ rfl
  refine lt_s (i := 51) ?_ rfl
  refine lt_s (i := 50) ?_ rfl
  refine lt_s (i := 49) ?_ rfl
  refine lt_s (i := 48) ?_ rfl
  refine lt_s (i := 47) ?_ rfl
  refine lt_s (i := 46) ?_ rfl
  refine lt_s (i := 45) ?_ rfl
  refine lt_s (i := 44) ?_ rfl
  refine lt_s (i := 43) ?_ rfl
  refine lt_s (i := 42) ?_ rfl
  refine lt_s (i := 41) ?_ rfl
  refine lt_s (i := 40) ?_ rfl
  refine lt_s (i := 39) ?_ rfl
  refine lt_s (i := 38) ?_ rfl
  refine lt_s (i := 37) ?_ rfl
  refine lt_s (i := 36) ?_ rfl
  refine lt_s (i := 35) ?_ rfl
  refine lt_s (i := 34) ?_ rfl
  refine lt_s (i := 33) ?_ rfl
  refine lt_s (i := 32) ?_ rfl
  refine lt_s (i := 31) ?_ rfl
  refine lt_s (i := 30) ?_ rfl
  refine lt_s (i := 29) ?_ rfl
  refine lt_s (i := 28) ?_ rfl
  refine lt_s (i := 27) ?_ rfl
  refine lt_s (i := 26) ?_ rfl
  refine lt_s (i := 25) ?_ rfl
  refine lt_s (i := 24) ?_ rfl
  refine lt_s (i := 23) ?_ rfl
  refine lt_s (i := 22) ?_ rfl
  refine lt_s (i := 21) ?_ rfl
  refine lt_s (i := 20) ?_ rfl
  refine lt_s (i := 19) ?_ rfl
  refine lt_s (i := 18) ?_ rfl
  refine lt_s (i := 17) ?_ rfl
  refine lt_s (i := 16) ?_ rfl
  refine lt_s (i := 15) ?_ rfl
  refine lt_s (i := 14) ?_ rfl
  refine lt_s (i := 13) ?_ rfl
  refine lt_s (i := 12) ?_ rfl
  refine lt_s (i := 11) ?_ rfl
  refine lt_s (i := 10) ?_ rfl
  refine lt_s (i := 9) ?_ rfl
  refine lt_s (i := 8) ?_ rfl
  refine lt_s (i := 7) ?_ rfl
  refine lt_s (i := 6) ?_ rfl
  refine lt_s (i := 5) ?_ rfl
  refine lt_s (i := 4) ?_ rfl
  refine lt_s (i := 3) ?_ rfl
  refine lt_s (i := 2) ?_ rfl
  refine lt_s (i := 1) ?_ rfl
  refine lt_s (i := 0) ?_ rfl
  exact lt_0
section XMV
variable {p : Program} {l : Launch} {e : Env} {R : Room} {s : State} {m : MethodId} {args : Array Value} {below : List Frame} {meth : Method} {c : Code} {H : Heap} {locs : List Loc} {cells slots : Nat} {Q : State → Prop}
variable {cc : ByteArray} {pc : Nat} {ls : Array Slot} {rest st0 : List Value} {own : String} {D : va_G} {cA : Nat → ClassId} {w : xD} {b : Nat} {st st' : XS} {r : Int32} {A : Nat → Prop} {H0 : Heap}
variable {y : MethodName} {bytes : ByteArray} {maxL n idx nL : Nat} {ret : Option FieldType} {rm : Room} {As : List Value}
/-- a call, whatever was made before it -/
theorem xcGv {j a i ci : Nat} {T : u_T} {N : Nat} {ty : Nat → FieldType} (C : xCx p s m args c cc own D cA) (hml : c.maxLocals = nL) (hsz : ls.size = nL) (hM : xMv w D cA b l y (Cond.code y bytes maxL ret) rm st (.ref (b + j) :: As) st') (hY : xY y bytes maxL ret n) (h0 : rm.cells = 0) (h1 : rm.slots = 0) (hl : Cond.methodLink own idx y ∈ wsG) (hi : Cond.instanceMethod y ∈ wsG) (hse : Cond.selects y.cls y y ∈ wsG) (hR : rm.frames + 1 ≤ R.frames ∧ 8 + (maxL + 11) + rm.locals ≤ R.locals) (hcs : cells ≤ R.cells ∧ slots ≤ R.slots) (hP : xP w D cA b st H) (hS : va_S A H0 H locs) (hA : ∀ q, xA w b q → A q) (ho : xo w j a i) (hs : w.2.2.2.1 a = .inl ci) (hc : xcl ci y.cls T N ty) (hn : As.length = n) (hrs : (rest.map fun v => v.category).sum ≤ 8) (hdg : decode cc pc = .ok (.invokevirtual idx, 3)) (hst : st0 = As.reverse ++ .ref (b + j) :: rest)
    (kk : ∀ (H1 : Heap) (locs1 : List Loc), xP w D cA b st' H1 → H.size ≤ H1.size → (∀ q, q < H.size → ¬ xA w b q → H1[q]? = H[q]?) → va_S A H0 H1 locs1 → W p l e R s m args below meth c H1 locs1 cells slots Q (F0 m (pc + 3) ls rest)) : W p l e R s m args below meth c H locs cells slots Q (F0 m pc ls st0) := by
  subst hst
  refine va_callv (va_runV (C := y.cls) (Ts := wsG) (nL := nL) (As := As) (rest := rest) ⟨C.1, C.2.1, hml, C.2.2.1, C.2.2.2.1⟩ hM ⟨xcallB C hY h0 h1 hl hR, C.2.2.2.1 _ hi, C.2.2.2.1 _ hse⟩ ⟨xPre.blind, xrecv C hP ho hs hc, xPre.at C hP⟩ rfl hn hsz rfl (lv_room hrs) hdg hcs) hS (fun q _ h => hA q h) hA ?_
  rintro u t H1 locs1 ht - rfl hB hz1 hk1 hS1
  rw [ht] at hB
  exact kk H1 locs1 hB hz1 hk1 hS1
theorem xcGi {j a i ci : Nat} {T : u_T} {N : Nat} {ty : Nat → FieldType} (C : xCx p s m args c cc own D cA) (hml : c.maxLocals = nL) (hsz : ls.size = nL) (hM : xMi w D cA b l y (Cond.code y bytes maxL ret) rm st (.ref (b + j) :: As) r st') (hY : xY y bytes maxL ret n) (h0 : rm.cells = 0) (h1 : rm.slots = 0) (hl : Cond.methodLink own idx y ∈ wsG) (hi : Cond.instanceMethod y ∈ wsG) (hse : Cond.selects y.cls y y ∈ wsG) (hR : rm.frames + 1 ≤ R.frames ∧ 8 + (maxL + 11) + rm.locals ≤ R.locals) (hcs : cells ≤ R.cells ∧ slots ≤ R.slots) (hP : xP w D cA b st H) (hS : va_S A H0 H locs) (hA : ∀ q, xA w b q → A q) (ho : xo w j a i) (hs : w.2.2.2.1 a = .inl ci) (hc : xcl ci y.cls T N ty) (hn : As.length = n) (hrs : (rest.map fun v => v.category).sum ≤ 8) (hdg : decode cc pc = .ok (.invokevirtual idx, 3)) (hst : st0 = As.reverse ++ .ref (b + j) :: rest)
    (kk : ∀ (H1 : Heap) (locs1 : List Loc), xP w D cA b st' H1 → H.size ≤ H1.size → (∀ q, q < H.size → ¬ xA w b q → H1[q]? = H[q]?) → va_S A H0 H1 locs1 → W p l e R s m args below meth c H1 locs1 cells slots Q (F0 m (pc + 3) ls (.int r :: rest))) : W p l e R s m args below meth c H locs cells slots Q (F0 m pc ls st0) := by
  subst hst
  refine va_calli (va_runV (C := y.cls) (Ts := wsG) (nL := nL) (As := As) (rest := rest) ⟨C.1, C.2.1, hml, C.2.2.1, C.2.2.2.1⟩ hM ⟨xcallB C hY h0 h1 hl hR, C.2.2.2.1 _ hi, C.2.2.2.1 _ hse⟩ ⟨xPre.blind, xrecv C hP ho hs hc, xPre.at C hP⟩ rfl hn hsz rfl (lv_room hrs) hdg hcs) hS (fun q _ h => hA q h) hA ?_
  rintro r' u t H1 locs1 ht - ⟨rfl, rfl⟩ hB hz1 hk1 hS1
  rw [ht] at hB
  exact kk H1 locs1 hB hz1 hk1 hS1
end XMV
def g_MO_init : Nat → XS → Int32 → XS
  | 0, st, _ => st
  | n + 1, st, x => if 8 ≤ x then st else g_MO_init n (xu (f_MO_forget (xu (xu st 4 x.toNatClampNeg 0 1) 3 x.toNatClampNeg 0 (-1)) x) 35 x.toNatClampNeg 0 (-1000000000)) (x + 1)
def mt0 : XS := g_MO_init 9 m00 0
abbrev xQm (D : va_G) (cA : Nat → ClassId) (a : Nat) : Array Value → State → Outcome → State → Prop := va_Qv (fun _ : Unit => True) (fun _ t => xP mw D cA a mt0 t.heap) (xAi a (a + 1))
def xIm (D : va_G) (cA : Nat → ClassId) (l : Launch) (cw : Cond) (rm : Room) (a n ms : Nat) : Prop :=
  Met l y_MO_init (cw :: wsG) rm (va_Pc [.ref a] (fun U => U.heap.size = a + 1 ∧ xob D 11 a v0M U.heap ∧ xK0 D cA U)) (xQm D cA a) n ms (xAi a (a + 1))
abbrev xEm (D : va_G) (cA : Nat → ClassId) (below : List Frame) (args : Array Value) (s : State) (a n ms : Nat) : State → Prop := MQ below (xQm D cA a) args s n ms (xAi a (a + 1))
set_option maxRecDepth 100000 in
set_option maxHeartbeats 4000000 in
theorem w_MO_init_445 (l : Launch) (D : va_G) (cA : Nat → ClassId) (a : Nat) {p : Program} {e : Env} {s : State} {m : MethodId} {below : List Frame} {meth : Method} {c : Code} {Q : State → Prop} (C : xCx p s m #[.ref a] c b_MO_init y_MO_init.cls D cA) (hml : c.maxLocals = 2) (stE : XS)
    (kx : ∀ (H : Heap) (locs : List Loc) (ls : Array Slot), xP mw D cA a stE H → va_S (xA mw a) s.heap H locs → W p l e { frames := 2, cells := 55, slots := 1856, locals := 60 } s m #[.ref a] below meth c H locs 55 1856 Q (F0 m 484 ls [])) :
    ∀ (n : Nat) (st : XS) (x : Int32) (H : Heap) (locs : List Loc) (ls : Array Slot), lpi 8 n x → lv_has ls 2 [(0, .ref (a + 0)), (1, .int x)] → xP mw D cA a st H → va_S (xA mw a) s.heap H locs → g_MO_init n st x = stE → W p l e { frames := 2, cells := 55, slots := 1856, locals := 60 } s m #[.ref a] below meth c H locs 55 1856 Q (F0 m 445 ls []) := by
  intro n
  induction n with
  | zero => intro st x H locs ls hx; exact absurd hx (fun h => lpi_no h)
  | succ n ih =>
    intro st x H locs ls hx hl hP hS hg
    refine lv_iload_n C.1 C.2.1 d_MO_init_445 rfl (lv_at hl 1 rfl) ?_
    refine lv_bipush (v := 8) C.1 C.2.1 d_MO_init_446 (by decide) ?_
    refine lv_icmp_ge (tgt := 484) C.1 C.2.1 d_MO_init_448 (by decide) (fun h1 => ?_) (fun h1 => ?_)
    · rw [g_MO_init, if_pos h1] at hg
      subst hg
      exact kx _ _ ls hP hS
    · have hlt := lpi_c hx h1 i32_8
      have hx8 : vp_in x 8 := lpi_ix hx hlt (by decide)
      rw [g_MO_init, if_neg h1] at hg
      refine lv_aload_n C.1 C.2.1 d_MO_init_451 rfl (lv_at hl 0 rfl) ?_
      refine xget C hP o_MO rfl c_MO (k := 7) (v := .ref (a + 4)) (by decide) wg_884 rfl d_MO_init_452 ?_
      refine lv_iload_n C.1 C.2.1 d_MO_init_455 rfl (lv_at hl 1 rfl) ?_
      refine lv_iconst (v := 1) C.1 C.2.1 d_MO_init_456 (by decide) ?_
      refine xiast mw_inj C hP hS om_4 rfl hx8 rfl d_MO_init_457 (fun H locs hP hS => ?_)
      refine lv_aload_n C.1 C.2.1 d_MO_init_458 rfl (lv_at hl 0 rfl) ?_
      refine xget C hP o_MO rfl c_MO (k := 6) (v := .ref (a + 3)) (by decide) wg_883 rfl d_MO_init_459 ?_
      refine lv_iload_n C.1 C.2.1 d_MO_init_462 rfl (lv_at hl 1 rfl) ?_
      refine lv_iconst (v := (-1)) C.1 C.2.1 d_MO_init_463 (by decide) ?_
      refine xiast mw_inj C hP hS om_3 rfl hx8 rfl d_MO_init_464 (fun H locs hP hS => ?_)
      refine lv_aload_n C.1 C.2.1 d_MO_init_465 rfl (lv_at hl 0 rfl) ?_
      refine lv_iload_n C.1 C.2.1 d_MO_init_466 rfl (lv_at hl 1 rfl) ?_
      refine xcGv (rest := []) C hml hl.1 (k_MO_forget l D cA a _ x hx8) q_MO_forget rfl rfl wg_872 wg_874 ws_52 ⟨Nat.le_of_ble_eq_true rfl, Nat.le_of_ble_eq_true rfl⟩ ⟨Nat.le_of_ble_eq_true rfl, Nat.le_of_ble_eq_true rfl⟩ hP hS (fun _ h => h) o_MO rfl c_MO rfl (Nat.le_of_ble_eq_true rfl) d_MO_init_467 rfl (fun H locs hP _ _ hS => ?_)
      refine lv_aload_n C.1 C.2.1 d_MO_init_470 rfl (lv_at hl 0 rfl) ?_
      refine xget C hP o_MO rfl c_MO (k := 38) (v := .ref (a + 35)) (by decide) wg_915 rfl d_MO_init_471 ?_
      refine lv_iload_n C.1 C.2.1 d_MO_init_474 rfl (lv_at hl 1 rfl) ?_
      refine lv_ldc (v := (-1000000000)) C.1 C.2.1 C.2.2.1 (C.2.2.2.1 _ wg_876) d_MO_init_475 ?_
      refine xiast mw_inj C hP hS om_35 rfl hx8 rfl d_MO_init_477 (fun H locs hP hS => ?_)
      refine lv_iinc (v := (x + 1)) C.1 C.2.1 d_MO_init_478 hl (k := 1) rfl rfl (by decide) rfl (fun ls hl => ?_)
      refine lv_goto (tgt := 445) C.1 C.2.1 d_MO_init_481 (by decide) ?_
      exact ih _ _ _ _ ls (lpi_nx hx hlt (by decide)) (lv_sub hl [1, 0] rfl) hP hS hg
set_option maxRecDepth 100000 in
set_option maxHeartbeats 4000000 in
theorem k_MO_init (l : Launch) (D : va_G) (cA : Nat → ClassId) (a : Nat) : xIm D cA l (Cond.code y_MO_init b_MO_init 2 none) { frames := 2, cells := 55, slots := 1856, locals := 60 } a 55 1856 := by
  refine Met.ofW (cc := b_MO_init) (maxL := 2) (ret := none) (by decide) rfl ?_
  intro p e s m args below meth c s₁ B' hml hv
  obtain ⟨rfl, hz, hT, hK, hN, hKA⟩ := hv
  have hts := atoms_spec (ws := Cond.code y_MO_init b_MO_init 2 none :: wsG) B'.pre
  have hl := lv_entry [Value.ref a] (n := 2) (Nat.le_of_ble_eq_true rfl)
  rw [lg_entry_eq]
  have C : xCx p s m #[.ref a] c b_MO_init y_MO_init.cls D cA := ⟨B'.exec, B'.bytes, findClass_of_methodNamed B'.named, fun w hw => hts w (List.mem_cons_of_mem _ hw), hK, hN⟩
  have hin : meth.name = "<init>" := (name_of_methodNamed B'.named B'.method).1
  have hlk := B'.notSynchronized
  have hr := B'.returns
  have hS : va_S (xA mw a) s.heap s.heap [] := va_S.rf
  have hF : mF D cA a 0 s.heap := mF_0
  generalize (lg_sl ([.ref a]) ++ List.replicate (2 - (lg_sl ([.ref a])).length) Slot.unset).toArray = ls at hl ⊢
  have hl : lv_has ls 2 [(0, .ref a)] := hl
  refine lv_aload_n C.1 C.2.1 d_MO_init_0 rfl (lv_at hl 0 rfl) ?_
  refine yobj C hml hl.1 wg_871 wg_27 wg_28 (Nat.le_of_ble_eq_true rfl) (Nat.le_of_ble_eq_true rfl) d_MO_init_1 ?_
  refine lv_aload_n C.1 C.2.1 d_MO_init_4 rfl (lv_at hl 0 rfl) ?_
  refine lv_iconst (v := 4) C.1 C.2.1 d_MO_init_5 (by decide) ?_
  refine ymk (N := 4) (atype := .int) (ty := .int) (t := 0) (i := 0) (k := 4) C hin wg_94 rfl (fun _ z => by cases z) rfl (by decide) (by decide) (by decide) (Nat.le_of_ble_eq_true rfl) (Nat.le_of_ble_eq_true rfl) om_1 rfl (fun _ _ => rfl) (by decide) wg_881 rfl rfl rfl rfl hz hT hF hS d_MO_init_6 d_MO_init_8 ?_
  clear hz hT hF hS
  intro H locs hz hT hF hS
  refine lv_aload_n C.1 C.2.1 d_MO_init_11 rfl (lv_at hl 0 rfl) ?_
  refine lv_bipush (v := 8) C.1 C.2.1 d_MO_init_12 (by decide) ?_
  refine ymk (N := 8) (atype := .int) (ty := .int) (t := 0) (i := 1) (k := 5) C hin wg_94 rfl (fun _ z => by cases z) rfl (by decide) (by decide) (by decide) (Nat.le_of_ble_eq_true rfl) (Nat.le_of_ble_eq_true rfl) om_2 rfl (fun _ _ => rfl) (by decide) wg_882 rfl rfl rfl rfl hz hT hF hS d_MO_init_14 d_MO_init_16 ?_
  clear hz hT hF hS
  intro H locs hz hT hF hS
  refine lv_aload_n C.1 C.2.1 d_MO_init_19 rfl (lv_at hl 0 rfl) ?_
  refine lv_bipush (v := 8) C.1 C.2.1 d_MO_init_20 (by decide) ?_
  refine ymk (N := 8) (atype := .int) (ty := .int) (t := 0) (i := 2) (k := 6) C hin wg_94 rfl (fun _ z => by cases z) rfl (by decide) (by decide) (by decide) (Nat.le_of_ble_eq_true rfl) (Nat.le_of_ble_eq_true rfl) om_3 rfl (fun _ _ => rfl) (by decide) wg_883 rfl rfl rfl rfl hz hT hF hS d_MO_init_22 d_MO_init_24 ?_
  clear hz hT hF hS
  intro H locs hz hT hF hS
  refine lv_aload_n C.1 C.2.1 d_MO_init_27 rfl (lv_at hl 0 rfl) ?_
  refine lv_bipush (v := 8) C.1 C.2.1 d_MO_init_28 (by decide) ?_
  refine ymk (N := 8) (atype := .int) (ty := .int) (t := 0) (i := 3) (k := 7) C hin wg_94 rfl (fun _ z => by cases z) rfl (by decide) (by decide) (by decide) (Nat.le_of_ble_eq_true rfl) (Nat.le_of_ble_eq_true rfl) om_4 rfl (fun _ _ => rfl) (by decide) wg_884 rfl rfl rfl rfl hz hT hF hS d_MO_init_30 d_MO_init_32 ?_
  clear hz hT hF hS
  intro H locs hz hT hF hS
  refine lv_aload_n C.1 C.2.1 d_MO_init_35 rfl (lv_at hl 0 rfl) ?_
  refine lv_bipush (v := 8) C.1 C.2.1 d_MO_init_36 (by decide) ?_
  refine ymk (N := 8) (atype := .int) (ty := .int) (t := 0) (i := 4) (k := 8) C hin wg_94 rfl (fun _ z => by cases z) rfl (by decide) (by decide) (by decide) (Nat.le_of_ble_eq_true rfl) (Nat.le_of_ble_eq_true rfl) om_5 rfl (fun _ _ => rfl) (by decide) wg_885 rfl rfl rfl rfl hz hT hF hS d_MO_init_38 d_MO_init_40 ?_
  clear hz hT hF hS
  intro H locs hz hT hF hS
  refine lv_aload_n C.1 C.2.1 d_MO_init_43 rfl (lv_at hl 0 rfl) ?_
  refine lv_bipush (v := 8) C.1 C.2.1 d_MO_init_44 (by decide) ?_
  refine ymk (N := 8) (atype := .int) (ty := .int) (t := 0) (i := 5) (k := 9) C hin wg_94 rfl (fun _ z => by cases z) rfl (by decide) (by decide) (by decide) (Nat.le_of_ble_eq_true rfl) (Nat.le_of_ble_eq_true rfl) om_6 rfl (fun _ _ => rfl) (by decide) wg_886 rfl rfl rfl rfl hz hT hF hS d_MO_init_46 d_MO_init_48 ?_
  clear hz hT hF hS
  intro H locs hz hT hF hS
  refine lv_aload_n C.1 C.2.1 d_MO_init_51 rfl (lv_at hl 0 rfl) ?_
  refine lv_bipush (v := 8) C.1 C.2.1 d_MO_init_52 (by decide) ?_
  refine ymk (N := 8) (atype := .boolean) (ty := .boolean) (t := 1) (i := 6) (k := 10) C hin wg_1064 rfl (fun _ z => by cases z) rfl (by decide) (by decide) (by decide) (Nat.le_of_ble_eq_true rfl) (Nat.le_of_ble_eq_true rfl) om_7 rfl (fun _ _ => zb0) (by decide) wg_887 rfl rfl rfl rfl hz hT hF hS d_MO_init_54 d_MO_init_56 ?_
  clear hz hT hF hS
  intro H locs hz hT hF hS
  refine lv_aload_n C.1 C.2.1 d_MO_init_59 rfl (lv_at hl 0 rfl) ?_
  refine lv_bipush (v := 8) C.1 C.2.1 d_MO_init_60 (by decide) ?_
  refine ymk (N := 8) (atype := .boolean) (ty := .boolean) (t := 1) (i := 7) (k := 11) C hin wg_1064 rfl (fun _ z => by cases z) rfl (by decide) (by decide) (by decide) (Nat.le_of_ble_eq_true rfl) (Nat.le_of_ble_eq_true rfl) om_8 rfl (fun _ _ => zb0) (by decide) wg_888 rfl rfl rfl rfl hz hT hF hS d_MO_init_62 d_MO_init_64 ?_
  clear hz hT hF hS
  intro H locs hz hT hF hS
  refine lv_aload_n C.1 C.2.1 d_MO_init_67 rfl (lv_at hl 0 rfl) ?_
  refine lv_bipush (v := 8) C.1 C.2.1 d_MO_init_68 (by decide) ?_
  refine ymk (N := 8) (atype := .int) (ty := .int) (t := 0) (i := 8) (k := 12) C hin wg_94 rfl (fun _ z => by cases z) rfl (by decide) (by decide) (by decide) (Nat.le_of_ble_eq_true rfl) (Nat.le_of_ble_eq_true rfl) om_9 rfl (fun _ _ => rfl) (by decide) wg_889 rfl rfl rfl rfl hz hT hF hS d_MO_init_70 d_MO_init_72 ?_
  clear hz hT hF hS
  intro H locs hz hT hF hS
  refine lv_aload_n C.1 C.2.1 d_MO_init_75 rfl (lv_at hl 0 rfl) ?_
  refine lv_bipush (v := 8) C.1 C.2.1 d_MO_init_76 (by decide) ?_
  refine ymk (N := 8) (atype := .int) (ty := .int) (t := 0) (i := 9) (k := 13) C hin wg_94 rfl (fun _ z => by cases z) rfl (by decide) (by decide) (by decide) (Nat.le_of_ble_eq_true rfl) (Nat.le_of_ble_eq_true rfl) om_10 rfl (fun _ _ => rfl) (by decide) wg_890 rfl rfl rfl rfl hz hT hF hS d_MO_init_78 d_MO_init_80 ?_
  clear hz hT hF hS
  intro H locs hz hT hF hS
  refine lv_aload_n C.1 C.2.1 d_MO_init_83 rfl (lv_at hl 0 rfl) ?_
  refine lv_bipush (v := 8) C.1 C.2.1 d_MO_init_84 (by decide) ?_
  refine ymk (N := 8) (atype := .int) (ty := .int) (t := 0) (i := 10) (k := 14) C hin wg_94 rfl (fun _ z => by cases z) rfl (by decide) (by decide) (by decide) (Nat.le_of_ble_eq_true rfl) (Nat.le_of_ble_eq_true rfl) om_11 rfl (fun _ _ => rfl) (by decide) wg_891 rfl rfl rfl rfl hz hT hF hS d_MO_init_86 d_MO_init_88 ?_
  clear hz hT hF hS
  intro H locs hz hT hF hS
  refine lv_aload_n C.1 C.2.1 d_MO_init_91 rfl (lv_at hl 0 rfl) ?_
  refine lv_bipush (v := 8) C.1 C.2.1 d_MO_init_92 (by decide) ?_
  refine ymk (N := 8) (atype := .int) (ty := .int) (t := 0) (i := 11) (k := 15) C hin wg_94 rfl (fun _ z => by cases z) rfl (by decide) (by decide) (by decide) (Nat.le_of_ble_eq_true rfl) (Nat.le_of_ble_eq_true rfl) om_12 rfl (fun _ _ => rfl) (by decide) wg_892 rfl rfl rfl rfl hz hT hF hS d_MO_init_94 d_MO_init_96 ?_
  clear hz hT hF hS
  intro H locs hz hT hF hS
  refine lv_aload_n C.1 C.2.1 d_MO_init_99 rfl (lv_at hl 0 rfl) ?_
  refine lv_bipush (v := 8) C.1 C.2.1 d_MO_init_100 (by decide) ?_
  refine ymk (N := 8) (atype := .int) (ty := .int) (t := 0) (i := 12) (k := 16) C hin wg_94 rfl (fun _ z => by cases z) rfl (by decide) (by decide) (by decide) (Nat.le_of_ble_eq_true rfl) (Nat.le_of_ble_eq_true rfl) om_13 rfl (fun _ _ => rfl) (by decide) wg_893 rfl rfl rfl rfl hz hT hF hS d_MO_init_102 d_MO_init_104 ?_
  clear hz hT hF hS
  intro H locs hz hT hF hS
  refine lv_aload_n C.1 C.2.1 d_MO_init_107 rfl (lv_at hl 0 rfl) ?_
  refine lv_bipush (v := 8) C.1 C.2.1 d_MO_init_108 (by decide) ?_
  refine ymk (N := 8) (atype := .int) (ty := .int) (t := 0) (i := 13) (k := 17) C hin wg_94 rfl (fun _ z => by cases z) rfl (by decide) (by decide) (by decide) (Nat.le_of_ble_eq_true rfl) (Nat.le_of_ble_eq_true rfl) om_14 rfl (fun _ _ => rfl) (by decide) wg_894 rfl rfl rfl rfl hz hT hF hS d_MO_init_110 d_MO_init_112 ?_
  clear hz hT hF hS
  intro H locs hz hT hF hS
  refine lv_aload_n C.1 C.2.1 d_MO_init_115 rfl (lv_at hl 0 rfl) ?_
  refine lv_bipush (v := 8) C.1 C.2.1 d_MO_init_116 (by decide) ?_
  refine ymk (N := 8) (atype := .int) (ty := .int) (t := 0) (i := 14) (k := 18) C hin wg_94 rfl (fun _ z => by cases z) rfl (by decide) (by decide) (by decide) (Nat.le_of_ble_eq_true rfl) (Nat.le_of_ble_eq_true rfl) om_15 rfl (fun _ _ => rfl) (by decide) wg_895 rfl rfl rfl rfl hz hT hF hS d_MO_init_118 d_MO_init_120 ?_
  clear hz hT hF hS
  intro H locs hz hT hF hS
  refine lv_aload_n C.1 C.2.1 d_MO_init_123 rfl (lv_at hl 0 rfl) ?_
  refine lv_bipush (v := 32) C.1 C.2.1 d_MO_init_124 (by decide) ?_
  refine ymk (N := 32) (atype := .int) (ty := .int) (t := 0) (i := 15) (k := 19) C hin wg_94 rfl (fun _ z => by cases z) rfl (by decide) (by decide) (by decide) (Nat.le_of_ble_eq_true rfl) (Nat.le_of_ble_eq_true rfl) om_16 rfl (fun _ _ => rfl) (by decide) wg_896 rfl rfl rfl rfl hz hT hF hS d_MO_init_126 d_MO_init_128 ?_
  clear hz hT hF hS
  intro H locs hz hT hF hS
  refine lv_aload_n C.1 C.2.1 d_MO_init_131 rfl (lv_at hl 0 rfl) ?_
  refine lv_bipush (v := 32) C.1 C.2.1 d_MO_init_132 (by decide) ?_
  refine ymk (N := 32) (atype := .int) (ty := .int) (t := 0) (i := 16) (k := 20) C hin wg_94 rfl (fun _ z => by cases z) rfl (by decide) (by decide) (by decide) (Nat.le_of_ble_eq_true rfl) (Nat.le_of_ble_eq_true rfl) om_17 rfl (fun _ _ => rfl) (by decide) wg_897 rfl rfl rfl rfl hz hT hF hS d_MO_init_134 d_MO_init_136 ?_
  clear hz hT hF hS
  intro H locs hz hT hF hS
  refine lv_aload_n C.1 C.2.1 d_MO_init_139 rfl (lv_at hl 0 rfl) ?_
  refine lv_bipush (v := 32) C.1 C.2.1 d_MO_init_140 (by decide) ?_
  refine ymk (N := 32) (atype := .int) (ty := .int) (t := 0) (i := 17) (k := 21) C hin wg_94 rfl (fun _ z => by cases z) rfl (by decide) (by decide) (by decide) (Nat.le_of_ble_eq_true rfl) (Nat.le_of_ble_eq_true rfl) om_18 rfl (fun _ _ => rfl) (by decide) wg_898 rfl rfl rfl rfl hz hT hF hS d_MO_init_142 d_MO_init_144 ?_
  clear hz hT hF hS
  intro H locs hz hT hF hS
  refine lv_aload_n C.1 C.2.1 d_MO_init_147 rfl (lv_at hl 0 rfl) ?_
  refine lv_bipush (v := 32) C.1 C.2.1 d_MO_init_148 (by decide) ?_
  refine ymk (N := 32) (atype := .int) (ty := .int) (t := 0) (i := 18) (k := 22) C hin wg_94 rfl (fun _ z => by cases z) rfl (by decide) (by decide) (by decide) (Nat.le_of_ble_eq_true rfl) (Nat.le_of_ble_eq_true rfl) om_19 rfl (fun _ _ => rfl) (by decide) wg_899 rfl rfl rfl rfl hz hT hF hS d_MO_init_150 d_MO_init_152 ?_
  clear hz hT hF hS
  intro H locs hz hT hF hS
  refine lv_aload_n C.1 C.2.1 d_MO_init_155 rfl (lv_at hl 0 rfl) ?_
  refine lv_bipush (v := 32) C.1 C.2.1 d_MO_init_156 (by decide) ?_
  refine ymk (N := 32) (atype := .int) (ty := .int) (t := 0) (i := 19) (k := 23) C hin wg_94 rfl (fun _ z => by cases z) rfl (by decide) (by decide) (by decide) (Nat.le_of_ble_eq_true rfl) (Nat.le_of_ble_eq_true rfl) om_20 rfl (fun _ _ => rfl) (by decide) wg_900 rfl rfl rfl rfl hz hT hF hS d_MO_init_158 d_MO_init_160 ?_
  clear hz hT hF hS
  intro H locs hz hT hF hS
  refine lv_aload_n C.1 C.2.1 d_MO_init_163 rfl (lv_at hl 0 rfl) ?_
  refine lv_bipush (v := 32) C.1 C.2.1 d_MO_init_164 (by decide) ?_
  refine ymk (N := 32) (atype := .int) (ty := .int) (t := 0) (i := 20) (k := 24) C hin wg_94 rfl (fun _ z => by cases z) rfl (by decide) (by decide) (by decide) (Nat.le_of_ble_eq_true rfl) (Nat.le_of_ble_eq_true rfl) om_21 rfl (fun _ _ => rfl) (by decide) wg_901 rfl rfl rfl rfl hz hT hF hS d_MO_init_166 d_MO_init_168 ?_
  clear hz hT hF hS
  intro H locs hz hT hF hS
  refine lv_aload_n C.1 C.2.1 d_MO_init_171 rfl (lv_at hl 0 rfl) ?_
  refine lv_bipush (v := 32) C.1 C.2.1 d_MO_init_172 (by decide) ?_
  refine ymk (N := 32) (atype := .int) (ty := .int) (t := 0) (i := 21) (k := 25) C hin wg_94 rfl (fun _ z => by cases z) rfl (by decide) (by decide) (by decide) (Nat.le_of_ble_eq_true rfl) (Nat.le_of_ble_eq_true rfl) om_22 rfl (fun _ _ => rfl) (by decide) wg_902 rfl rfl rfl rfl hz hT hF hS d_MO_init_174 d_MO_init_176 ?_
  clear hz hT hF hS
  intro H locs hz hT hF hS
  refine lv_aload_n C.1 C.2.1 d_MO_init_179 rfl (lv_at hl 0 rfl) ?_
  refine lv_bipush (v := 32) C.1 C.2.1 d_MO_init_180 (by decide) ?_
  refine ymk (N := 32) (atype := .boolean) (ty := .boolean) (t := 1) (i := 22) (k := 26) C hin wg_1064 rfl (fun _ z => by cases z) rfl (by decide) (by decide) (by decide) (Nat.le_of_ble_eq_true rfl) (Nat.le_of_ble_eq_true rfl) om_23 rfl (fun _ _ => zb0) (by decide) wg_903 rfl rfl rfl rfl hz hT hF hS d_MO_init_182 d_MO_init_184 ?_
  clear hz hT hF hS
  intro H locs hz hT hF hS
  refine lv_aload_n C.1 C.2.1 d_MO_init_187 rfl (lv_at hl 0 rfl) ?_
  refine lv_bipush (v := 32) C.1 C.2.1 d_MO_init_188 (by decide) ?_
  refine ymk (N := 32) (atype := .boolean) (ty := .boolean) (t := 1) (i := 23) (k := 27) C hin wg_1064 rfl (fun _ z => by cases z) rfl (by decide) (by decide) (by decide) (Nat.le_of_ble_eq_true rfl) (Nat.le_of_ble_eq_true rfl) om_24 rfl (fun _ _ => zb0) (by decide) wg_904 rfl rfl rfl rfl hz hT hF hS d_MO_init_190 d_MO_init_192 ?_
  clear hz hT hF hS
  intro H locs hz hT hF hS
  refine lv_aload_n C.1 C.2.1 d_MO_init_195 rfl (lv_at hl 0 rfl) ?_
  refine lv_bipush (v := 32) C.1 C.2.1 d_MO_init_196 (by decide) ?_
  refine ymk (N := 32) (atype := .int) (ty := .int) (t := 0) (i := 24) (k := 28) C hin wg_94 rfl (fun _ z => by cases z) rfl (by decide) (by decide) (by decide) (Nat.le_of_ble_eq_true rfl) (Nat.le_of_ble_eq_true rfl) om_25 rfl (fun _ _ => rfl) (by decide) wg_905 rfl rfl rfl rfl hz hT hF hS d_MO_init_198 d_MO_init_200 ?_
  clear hz hT hF hS
  intro H locs hz hT hF hS
  refine lv_aload_n C.1 C.2.1 d_MO_init_203 rfl (lv_at hl 0 rfl) ?_
  refine lv_bipush (v := 32) C.1 C.2.1 d_MO_init_204 (by decide) ?_
  refine ymk (N := 32) (atype := .int) (ty := .int) (t := 0) (i := 25) (k := 29) C hin wg_94 rfl (fun _ z => by cases z) rfl (by decide) (by decide) (by decide) (Nat.le_of_ble_eq_true rfl) (Nat.le_of_ble_eq_true rfl) om_26 rfl (fun _ _ => rfl) (by decide) wg_906 rfl rfl rfl rfl hz hT hF hS d_MO_init_206 d_MO_init_208 ?_
  clear hz hT hF hS
  intro H locs hz hT hF hS
  refine lv_aload_n C.1 C.2.1 d_MO_init_211 rfl (lv_at hl 0 rfl) ?_
  refine lv_bipush (v := 32) C.1 C.2.1 d_MO_init_212 (by decide) ?_
  refine ymk (N := 32) (atype := .int) (ty := .int) (t := 0) (i := 26) (k := 30) C hin wg_94 rfl (fun _ z => by cases z) rfl (by decide) (by decide) (by decide) (Nat.le_of_ble_eq_true rfl) (Nat.le_of_ble_eq_true rfl) om_27 rfl (fun _ _ => rfl) (by decide) wg_907 rfl rfl rfl rfl hz hT hF hS d_MO_init_214 d_MO_init_216 ?_
  clear hz hT hF hS
  intro H locs hz hT hF hS
  refine lv_aload_n C.1 C.2.1 d_MO_init_219 rfl (lv_at hl 0 rfl) ?_
  refine lv_bipush (v := 32) C.1 C.2.1 d_MO_init_220 (by decide) ?_
  refine ymk (N := 32) (atype := .int) (ty := .int) (t := 0) (i := 27) (k := 31) C hin wg_94 rfl (fun _ z => by cases z) rfl (by decide) (by decide) (by decide) (Nat.le_of_ble_eq_true rfl) (Nat.le_of_ble_eq_true rfl) om_28 rfl (fun _ _ => rfl) (by decide) wg_908 rfl rfl rfl rfl hz hT hF hS d_MO_init_222 d_MO_init_224 ?_
  clear hz hT hF hS
  intro H locs hz hT hF hS
  refine lv_aload_n C.1 C.2.1 d_MO_init_227 rfl (lv_at hl 0 rfl) ?_
  refine lv_bipush (v := 32) C.1 C.2.1 d_MO_init_228 (by decide) ?_
  refine ymk (N := 32) (atype := .int) (ty := .int) (t := 0) (i := 28) (k := 32) C hin wg_94 rfl (fun _ z => by cases z) rfl (by decide) (by decide) (by decide) (Nat.le_of_ble_eq_true rfl) (Nat.le_of_ble_eq_true rfl) om_29 rfl (fun _ _ => rfl) (by decide) wg_909 rfl rfl rfl rfl hz hT hF hS d_MO_init_230 d_MO_init_232 ?_
  clear hz hT hF hS
  intro H locs hz hT hF hS
  refine lv_aload_n C.1 C.2.1 d_MO_init_235 rfl (lv_at hl 0 rfl) ?_
  refine lv_bipush (v := 32) C.1 C.2.1 d_MO_init_236 (by decide) ?_
  refine ymk (N := 32) (atype := .boolean) (ty := .boolean) (t := 1) (i := 29) (k := 33) C hin wg_1064 rfl (fun _ z => by cases z) rfl (by decide) (by decide) (by decide) (Nat.le_of_ble_eq_true rfl) (Nat.le_of_ble_eq_true rfl) om_30 rfl (fun _ _ => zb0) (by decide) wg_910 rfl rfl rfl rfl hz hT hF hS d_MO_init_238 d_MO_init_240 ?_
  clear hz hT hF hS
  intro H locs hz hT hF hS
  refine lv_aload_n C.1 C.2.1 d_MO_init_243 rfl (lv_at hl 0 rfl) ?_
  refine lv_bipush (v := 32) C.1 C.2.1 d_MO_init_244 (by decide) ?_
  refine ymk (N := 32) (atype := .boolean) (ty := .boolean) (t := 1) (i := 30) (k := 34) C hin wg_1064 rfl (fun _ z => by cases z) rfl (by decide) (by decide) (by decide) (Nat.le_of_ble_eq_true rfl) (Nat.le_of_ble_eq_true rfl) om_31 rfl (fun _ _ => zb0) (by decide) wg_911 rfl rfl rfl rfl hz hT hF hS d_MO_init_246 d_MO_init_248 ?_
  clear hz hT hF hS
  intro H locs hz hT hF hS
  refine lv_aload_n C.1 C.2.1 d_MO_init_251 rfl (lv_at hl 0 rfl) ?_
  refine lv_bipush (v := 32) C.1 C.2.1 d_MO_init_252 (by decide) ?_
  refine ymk (N := 32) (atype := .int) (ty := .int) (t := 0) (i := 31) (k := 35) C hin wg_94 rfl (fun _ z => by cases z) rfl (by decide) (by decide) (by decide) (Nat.le_of_ble_eq_true rfl) (Nat.le_of_ble_eq_true rfl) om_32 rfl (fun _ _ => rfl) (by decide) wg_912 rfl rfl rfl rfl hz hT hF hS d_MO_init_254 d_MO_init_256 ?_
  clear hz hT hF hS
  intro H locs hz hT hF hS
  refine lv_aload_n C.1 C.2.1 d_MO_init_259 rfl (lv_at hl 0 rfl) ?_
  refine lv_bipush (v := 32) C.1 C.2.1 d_MO_init_260 (by decide) ?_
  refine ymk (N := 32) (atype := .int) (ty := .int) (t := 0) (i := 32) (k := 36) C hin wg_94 rfl (fun _ z => by cases z) rfl (by decide) (by decide) (by decide) (Nat.le_of_ble_eq_true rfl) (Nat.le_of_ble_eq_true rfl) om_33 rfl (fun _ _ => rfl) (by decide) wg_913 rfl rfl rfl rfl hz hT hF hS d_MO_init_262 d_MO_init_264 ?_
  clear hz hT hF hS
  intro H locs hz hT hF hS
  refine lv_aload_n C.1 C.2.1 d_MO_init_267 rfl (lv_at hl 0 rfl) ?_
  refine lv_bipush (v := 32) C.1 C.2.1 d_MO_init_268 (by decide) ?_
  refine ymk (N := 32) (atype := .int) (ty := .int) (t := 0) (i := 33) (k := 37) C hin wg_94 rfl (fun _ z => by cases z) rfl (by decide) (by decide) (by decide) (Nat.le_of_ble_eq_true rfl) (Nat.le_of_ble_eq_true rfl) om_34 rfl (fun _ _ => rfl) (by decide) wg_914 rfl rfl rfl rfl hz hT hF hS d_MO_init_270 d_MO_init_272 ?_
  clear hz hT hF hS
  intro H locs hz hT hF hS
  refine lv_aload_n C.1 C.2.1 d_MO_init_275 rfl (lv_at hl 0 rfl) ?_
  refine lv_bipush (v := 8) C.1 C.2.1 d_MO_init_276 (by decide) ?_
  refine ymk (N := 8) (atype := .int) (ty := .int) (t := 0) (i := 34) (k := 38) C hin wg_94 rfl (fun _ z => by cases z) rfl (by decide) (by decide) (by decide) (Nat.le_of_ble_eq_true rfl) (Nat.le_of_ble_eq_true rfl) om_35 rfl (fun _ _ => rfl) (by decide) wg_915 rfl rfl rfl rfl hz hT hF hS d_MO_init_278 d_MO_init_280 ?_
  clear hz hT hF hS
  intro H locs hz hT hF hS
  refine lv_aload_n C.1 C.2.1 d_MO_init_283 rfl (lv_at hl 0 rfl) ?_
  refine lv_bipush (v := 64) C.1 C.2.1 d_MO_init_284 (by decide) ?_
  refine ymk (N := 64) (atype := .int) (ty := .int) (t := 0) (i := 35) (k := 40) C hin wg_94 rfl (fun _ z => by cases z) rfl (by decide) (by decide) (by decide) (Nat.le_of_ble_eq_true rfl) (Nat.le_of_ble_eq_true rfl) om_36 rfl (fun _ _ => rfl) (by decide) wg_917 rfl rfl rfl rfl hz hT hF hS d_MO_init_286 d_MO_init_288 ?_
  clear hz hT hF hS
  intro H locs hz hT hF hS
  refine lv_aload_n C.1 C.2.1 d_MO_init_291 rfl (lv_at hl 0 rfl) ?_
  refine lv_bipush (v := 64) C.1 C.2.1 d_MO_init_292 (by decide) ?_
  refine ymk (N := 64) (atype := .int) (ty := .int) (t := 0) (i := 36) (k := 41) C hin wg_94 rfl (fun _ z => by cases z) rfl (by decide) (by decide) (by decide) (Nat.le_of_ble_eq_true rfl) (Nat.le_of_ble_eq_true rfl) om_37 rfl (fun _ _ => rfl) (by decide) wg_918 rfl rfl rfl rfl hz hT hF hS d_MO_init_294 d_MO_init_296 ?_
  clear hz hT hF hS
  intro H locs hz hT hF hS
  refine lv_aload_n C.1 C.2.1 d_MO_init_299 rfl (lv_at hl 0 rfl) ?_
  refine lv_bipush (v := 64) C.1 C.2.1 d_MO_init_300 (by decide) ?_
  refine ymk (N := 64) (atype := .int) (ty := .int) (t := 0) (i := 37) (k := 42) C hin wg_94 rfl (fun _ z => by cases z) rfl (by decide) (by decide) (by decide) (Nat.le_of_ble_eq_true rfl) (Nat.le_of_ble_eq_true rfl) om_38 rfl (fun _ _ => rfl) (by decide) wg_919 rfl rfl rfl rfl hz hT hF hS d_MO_init_302 d_MO_init_304 ?_
  clear hz hT hF hS
  intro H locs hz hT hF hS
  refine lv_aload_n C.1 C.2.1 d_MO_init_307 rfl (lv_at hl 0 rfl) ?_
  refine lv_bipush (v := 64) C.1 C.2.1 d_MO_init_308 (by decide) ?_
  refine ymk (N := 64) (atype := .int) (ty := .int) (t := 0) (i := 38) (k := 43) C hin wg_94 rfl (fun _ z => by cases z) rfl (by decide) (by decide) (by decide) (Nat.le_of_ble_eq_true rfl) (Nat.le_of_ble_eq_true rfl) om_39 rfl (fun _ _ => rfl) (by decide) wg_920 rfl rfl rfl rfl hz hT hF hS d_MO_init_310 d_MO_init_312 ?_
  clear hz hT hF hS
  intro H locs hz hT hF hS
  refine lv_aload_n C.1 C.2.1 d_MO_init_315 rfl (lv_at hl 0 rfl) ?_
  refine lv_bipush (v := 64) C.1 C.2.1 d_MO_init_316 (by decide) ?_
  refine ymk (N := 64) (atype := .int) (ty := .int) (t := 0) (i := 39) (k := 44) C hin wg_94 rfl (fun _ z => by cases z) rfl (by decide) (by decide) (by decide) (Nat.le_of_ble_eq_true rfl) (Nat.le_of_ble_eq_true rfl) om_40 rfl (fun _ _ => rfl) (by decide) wg_921 rfl rfl rfl rfl hz hT hF hS d_MO_init_318 d_MO_init_320 ?_
  clear hz hT hF hS
  intro H locs hz hT hF hS
  refine lv_aload_n C.1 C.2.1 d_MO_init_323 rfl (lv_at hl 0 rfl) ?_
  refine lv_bipush (v := 64) C.1 C.2.1 d_MO_init_324 (by decide) ?_
  refine ymk (N := 64) (atype := .int) (ty := .int) (t := 0) (i := 40) (k := 45) C hin wg_94 rfl (fun _ z => by cases z) rfl (by decide) (by decide) (by decide) (Nat.le_of_ble_eq_true rfl) (Nat.le_of_ble_eq_true rfl) om_41 rfl (fun _ _ => rfl) (by decide) wg_922 rfl rfl rfl rfl hz hT hF hS d_MO_init_326 d_MO_init_328 ?_
  clear hz hT hF hS
  intro H locs hz hT hF hS
  refine lv_aload_n C.1 C.2.1 d_MO_init_331 rfl (lv_at hl 0 rfl) ?_
  refine lv_bipush (v := 64) C.1 C.2.1 d_MO_init_332 (by decide) ?_
  refine ymk (N := 64) (atype := .int) (ty := .int) (t := 0) (i := 41) (k := 46) C hin wg_94 rfl (fun _ z => by cases z) rfl (by decide) (by decide) (by decide) (Nat.le_of_ble_eq_true rfl) (Nat.le_of_ble_eq_true rfl) om_42 rfl (fun _ _ => rfl) (by decide) wg_923 rfl rfl rfl rfl hz hT hF hS d_MO_init_334 d_MO_init_336 ?_
  clear hz hT hF hS
  intro H locs hz hT hF hS
  refine lv_aload_n C.1 C.2.1 d_MO_init_339 rfl (lv_at hl 0 rfl) ?_
  refine lv_bipush (v := 64) C.1 C.2.1 d_MO_init_340 (by decide) ?_
  refine ymk (N := 64) (atype := .int) (ty := .int) (t := 0) (i := 42) (k := 47) C hin wg_94 rfl (fun _ z => by cases z) rfl (by decide) (by decide) (by decide) (Nat.le_of_ble_eq_true rfl) (Nat.le_of_ble_eq_true rfl) om_43 rfl (fun _ _ => rfl) (by decide) wg_924 rfl rfl rfl rfl hz hT hF hS d_MO_init_342 d_MO_init_344 ?_
  clear hz hT hF hS
  intro H locs hz hT hF hS
  refine lv_aload_n C.1 C.2.1 d_MO_init_347 rfl (lv_at hl 0 rfl) ?_
  refine lv_bipush (v := 16) C.1 C.2.1 d_MO_init_348 (by decide) ?_
  refine ymk (N := 16) (atype := .int) (ty := .int) (t := 0) (i := 43) (k := 49) C hin wg_94 rfl (fun _ z => by cases z) rfl (by decide) (by decide) (by decide) (Nat.le_of_ble_eq_true rfl) (Nat.le_of_ble_eq_true rfl) om_44 rfl (fun _ _ => rfl) (by decide) wg_926 rfl rfl rfl rfl hz hT hF hS d_MO_init_350 d_MO_init_352 ?_
  clear hz hT hF hS
  intro H locs hz hT hF hS
  refine lv_aload_n C.1 C.2.1 d_MO_init_355 rfl (lv_at hl 0 rfl) ?_
  refine lv_bipush (v := 16) C.1 C.2.1 d_MO_init_356 (by decide) ?_
  refine ymk (N := 16) (atype := .int) (ty := .int) (t := 0) (i := 44) (k := 50) C hin wg_94 rfl (fun _ z => by cases z) rfl (by decide) (by decide) (by decide) (Nat.le_of_ble_eq_true rfl) (Nat.le_of_ble_eq_true rfl) om_45 rfl (fun _ _ => rfl) (by decide) wg_927 rfl rfl rfl rfl hz hT hF hS d_MO_init_358 d_MO_init_360 ?_
  clear hz hT hF hS
  intro H locs hz hT hF hS
  refine lv_aload_n C.1 C.2.1 d_MO_init_363 rfl (lv_at hl 0 rfl) ?_
  refine lv_bipush (v := 16) C.1 C.2.1 d_MO_init_364 (by decide) ?_
  refine ymk (N := 16) (atype := .int) (ty := .int) (t := 0) (i := 45) (k := 51) C hin wg_94 rfl (fun _ z => by cases z) rfl (by decide) (by decide) (by decide) (Nat.le_of_ble_eq_true rfl) (Nat.le_of_ble_eq_true rfl) om_46 rfl (fun _ _ => rfl) (by decide) wg_928 rfl rfl rfl rfl hz hT hF hS d_MO_init_366 d_MO_init_368 ?_
  clear hz hT hF hS
  intro H locs hz hT hF hS
  refine lv_aload_n C.1 C.2.1 d_MO_init_371 rfl (lv_at hl 0 rfl) ?_
  refine lv_bipush (v := 16) C.1 C.2.1 d_MO_init_372 (by decide) ?_
  refine ymk (N := 16) (atype := .int) (ty := .int) (t := 0) (i := 46) (k := 52) C hin wg_94 rfl (fun _ z => by cases z) rfl (by decide) (by decide) (by decide) (Nat.le_of_ble_eq_true rfl) (Nat.le_of_ble_eq_true rfl) om_47 rfl (fun _ _ => rfl) (by decide) wg_929 rfl rfl rfl rfl hz hT hF hS d_MO_init_374 d_MO_init_376 ?_
  clear hz hT hF hS
  intro H locs hz hT hF hS
  refine lv_aload_n C.1 C.2.1 d_MO_init_379 rfl (lv_at hl 0 rfl) ?_
  refine lv_bipush (v := 16) C.1 C.2.1 d_MO_init_380 (by decide) ?_
  refine ymk (N := 16) (atype := .int) (ty := .int) (t := 0) (i := 47) (k := 53) C hin wg_94 rfl (fun _ z => by cases z) rfl (by decide) (by decide) (by decide) (Nat.le_of_ble_eq_true rfl) (Nat.le_of_ble_eq_true rfl) om_48 rfl (fun _ _ => rfl) (by decide) wg_930 rfl rfl rfl rfl hz hT hF hS d_MO_init_382 d_MO_init_384 ?_
  clear hz hT hF hS
  intro H locs hz hT hF hS
  refine lv_aload_n C.1 C.2.1 d_MO_init_387 rfl (lv_at hl 0 rfl) ?_
  refine lv_bipush (v := 16) C.1 C.2.1 d_MO_init_388 (by decide) ?_
  refine ymk (N := 16) (atype := .int) (ty := .int) (t := 0) (i := 48) (k := 54) C hin wg_94 rfl (fun _ z => by cases z) rfl (by decide) (by decide) (by decide) (Nat.le_of_ble_eq_true rfl) (Nat.le_of_ble_eq_true rfl) om_49 rfl (fun _ _ => rfl) (by decide) wg_931 rfl rfl rfl rfl hz hT hF hS d_MO_init_390 d_MO_init_392 ?_
  clear hz hT hF hS
  intro H locs hz hT hF hS
  refine lv_aload_n C.1 C.2.1 d_MO_init_395 rfl (lv_at hl 0 rfl) ?_
  refine lv_bipush (v := 16) C.1 C.2.1 d_MO_init_396 (by decide) ?_
  refine ymk (N := 16) (atype := .int) (ty := .int) (t := 0) (i := 49) (k := 55) C hin wg_94 rfl (fun _ z => by cases z) rfl (by decide) (by decide) (by decide) (Nat.le_of_ble_eq_true rfl) (Nat.le_of_ble_eq_true rfl) om_50 rfl (fun _ _ => rfl) (by decide) wg_932 rfl rfl rfl rfl hz hT hF hS d_MO_init_398 d_MO_init_400 ?_
  clear hz hT hF hS
  intro H locs hz hT hF hS
  refine lv_aload_n C.1 C.2.1 d_MO_init_403 rfl (lv_at hl 0 rfl) ?_
  refine lv_bipush (v := 100) C.1 C.2.1 d_MO_init_404 (by decide) ?_
  refine ymk (N := 100) (atype := .int) (ty := .int) (t := 0) (i := 50) (k := 57) C hin wg_94 rfl (fun _ z => by cases z) rfl (by decide) (by decide) (by decide) (Nat.le_of_ble_eq_true rfl) (Nat.le_of_ble_eq_true rfl) om_51 rfl (fun _ _ => rfl) (by decide) wg_934 rfl rfl rfl rfl hz hT hF hS d_MO_init_406 d_MO_init_408 ?_
  clear hz hT hF hS
  intro H locs hz hT hF hS
  refine lv_aload_n C.1 C.2.1 d_MO_init_411 rfl (lv_at hl 0 rfl) ?_
  refine lv_bipush (v := 100) C.1 C.2.1 d_MO_init_412 (by decide) ?_
  refine ymk (N := 100) (atype := .int) (ty := .int) (t := 0) (i := 51) (k := 58) C hin wg_94 rfl (fun _ z => by cases z) rfl (by decide) (by decide) (by decide) (Nat.le_of_ble_eq_true rfl) (Nat.le_of_ble_eq_true rfl) om_52 rfl (fun _ _ => rfl) (by decide) wg_935 rfl rfl rfl rfl hz hT hF hS d_MO_init_414 d_MO_init_416 ?_
  clear hz hT hF hS
  intro H locs hz hT hF hS
  refine lv_aload_n C.1 C.2.1 d_MO_init_419 rfl (lv_at hl 0 rfl) ?_
  refine lv_bipush (v := 100) C.1 C.2.1 d_MO_init_420 (by decide) ?_
  refine ymk (N := 100) (atype := .int) (ty := .int) (t := 0) (i := 52) (k := 59) C hin wg_94 rfl (fun _ z => by cases z) rfl (by decide) (by decide) (by decide) (Nat.le_of_ble_eq_true rfl) (Nat.le_of_ble_eq_true rfl) om_53 rfl (fun _ _ => rfl) (by decide) wg_936 rfl rfl rfl rfl hz hT hF hS d_MO_init_422 d_MO_init_424 ?_
  clear hz hT hF hS
  intro H locs hz hT hF hS
  refine lv_aload_n C.1 C.2.1 d_MO_init_427 rfl (lv_at hl 0 rfl) ?_
  refine lv_bipush (v := 100) C.1 C.2.1 d_MO_init_428 (by decide) ?_
  refine ymk (N := 100) (atype := .int) (ty := .int) (t := 0) (i := 53) (k := 60) C hin wg_94 rfl (fun _ z => by cases z) rfl (by decide) (by decide) (by decide) (Nat.le_of_ble_eq_true rfl) (Nat.le_of_ble_eq_true rfl) om_54 rfl (fun _ _ => rfl) (by decide) wg_937 rfl rfl rfl rfl hz hT hF hS d_MO_init_430 d_MO_init_432 ?_
  clear hz hT hF hS
  intro H locs hz hT hF hS
  refine lv_aload_n C.1 C.2.1 d_MO_init_435 rfl (lv_at hl 0 rfl) ?_
  refine lv_bipush (v := 100) C.1 C.2.1 d_MO_init_436 (by decide) ?_
  refine ymk (N := 100) (atype := .int) (ty := .int) (t := 0) (i := 54) (k := 61) C hin wg_94 rfl (fun _ z => by cases z) rfl (by decide) (by decide) (by decide) (Nat.le_of_ble_eq_true rfl) (Nat.le_of_ble_eq_true rfl) om_55 rfl (fun _ _ => rfl) (by decide) wg_938 rfl rfl rfl rfl hz hT hF hS d_MO_init_438 d_MO_init_440 ?_
  clear hz hT hF hS
  intro H locs hz hT hF hS
  have hP : xP mw D cA a m00 H := fun j hj => by
    by_cases e0 : j = 0
    · subst e0; exact at_MO hT
    · exact hF j (by omega) (by have hj : j < 56 := hj; omega)
  refine lv_iconst (v := 0) C.1 C.2.1 d_MO_init_443 (by decide) ?_
  refine lv_istore_n C.1 C.2.1 d_MO_init_444 rfl hl (by decide) rfl (fun ls hl => ?_)
  refine w_MO_init_445 l D cA a C hml mt0 (fun H locs ls hP hS => ?_) 9 m00 0 _ _ ls lpi_st (lv_sub hl [1, 0] rfl) hP hS rfl
  have hS2 : va_S (xAi a (a + 1)) s.heap H locs := ⟨hS.1, fun q h1 h2 => hS.2.1 q h1 (fun z => h2 (by have := z.1; unfold xAi; omega)), fun z hz => by have := (hS.2.2 z hz).1; unfold xAi; omega⟩
  exact W.vret C.1 C.2.1 hr (fun t ht _ => ⟨⟨(), rfl, trivial, by show xP mw D cA a mt0 t.heap; rw [ht]; exact hP⟩, hS2.F ht⟩) hS2.2.2 d_MO_init_484 hlk
