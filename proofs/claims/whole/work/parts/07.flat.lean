/-! flat states: kind of object, field (or place), number of the object -/
abbrev XS : Type := Nat → Nat → Nat → Int32
def xu (st : XS) (a k i : Nat) (v : Int32) : XS := fun a' k' i' => if a' = a ∧ k' = k ∧ i' = i then v else st a' k' i'
theorem xu_s {st : XS} {a k i : Nat} {v : Int32} : xu st a k i v a k i = v := by simp [xu]
theorem xu_n {st : XS} {a k i a' k' i' : Nat} {v : Int32} (h : ¬ (a' = a ∧ k' = k ∧ i' = i)) : xu st a k i v a' k' i' = st a' k' i' := by simp only [xu, if_neg h]
def bz (x : Int32) : Int32 := x &&& 1
theorem bz_bz (x : Int32) : bz (bz x) = bz x := by
  unfold bz
  rw [Int32.and_assoc]
  rfl
theorem bz_0 : bz 0 = 0 := by decide
theorem bz_1 : bz 1 = 1 := by decide
theorem bz_01 (x : Int32) : bz x = 0 ∨ bz x = 1 := by
  obtain ⟨j, hj, e⟩ := pk_andE x (m := 1) 1 (by decide)
  unfold bz
  rw [e]
  rcases (show j = 0 ∨ j = 1 by omega) with rfl | rfl
  · exact Or.inl (by decide)
  · exact Or.inr (by decide)
theorem bz_fit {x : Int32} (h : bz x = x) : fits .boolean (.int x) = true := by
  rcases bz_01 x with e | e <;> rw [← h, e] <;> decide
theorem bz_nar {x : Int32} (h : bz x = x) : narrow .boolean (.int x) = .int x := by
  show Value.int (x &&& 1) = .int x
  exact congrArg _ h
/-! the links between nest mates, which move with the tables -/
def nW (w : Cond) : Bool := match w with
  | .fieldLinkNest .. => true
  | .methodLinkNest .. => true
  | _ => false
def KN (U : State) : Prop := ∀ w ∈ tables_1, nW w = true → va_Nw w U
theorem KN.moved {s U : State} (hW : s.WarmedH U.vm) (h : KN s) : KN U := by
  intro w hw hn
  have h1 := h w hw hn
  cases w <;> first | (simp [nW] at hn; done) | exact va_Nw.warmF hW h1 | exact va_Nw.warmM hW h1
theorem KN.same {u U : State} (hvm : u.vm = U.vm) (h : KN u) : KN U := by
  intro w hw hn
  have h1 := h w hw hn
  cases w <;> first | (simp [nW] at hn; done) | exact va_Nw.same rfl hvm h1
/-! flat worlds: object j lies at b + j; it is of kind (w.1 j) and number (w.2.1 j); its place k holds w.2.2.1 b kind number k (the state's number there) -/
abbrev xD : Type := (Nat → Nat) × (Nat → Nat) × (Nat → Nat → Nat → Nat → Int32 → Value) × (Nat → Nat ⊕ (Nat × Nat)) × Nat
abbrev xV (w : xD) (b : Nat) (st : XS) (a i : Nat) : Nat → Value := fun k => w.2.2.1 b a i k (st a k i)
def xat (w : xD) (D : va_G) (cA : Nat → ClassId) (b : Nat) (st : XS) (j : Nat) (H : Heap) : Prop :=
  match w.2.2.2.1 (w.1 j) with
  | .inl ci => ∃ r : vw_C, xCl[ci]? = some r ∧ t_OB (b + j) (D.1 ci) r.2.2 (D.2 ci) H (xV w b st (w.1 j) (w.2.1 j))
  | .inr t => H[b + j]? = some (arrV (cA t.1) t.2 (xV w b st (w.1 j) (w.2.1 j)))
def xP (w : xD) (D : va_G) (cA : Nat → ClassId) (b : Nat) (st : XS) (H : Heap) : Prop := ∀ j, j < w.2.2.2.2 → xat w D cA b st j H
def xinj (w : xD) : Prop := ∀ j j', j < w.2.2.2.2 → j' < w.2.2.2.2 → w.1 j = w.1 j' → w.2.1 j = w.2.1 j' → j = j'
def xA (w : xD) (b : Nat) : Nat → Prop := fun q => b ≤ q ∧ q < b + w.2.2.2.2
/-- object j is the i-th of kind a -/
def xo (w : xD) (j a i : Nat) : Prop := j < w.2.2.2.2 ∧ w.1 j = a ∧ w.2.1 j = i
theorem xo.A {w : xD} {j a i b : Nat} (h : xo w j a i) : xA w b (b + j) := ⟨Nat.le_add_right _ _, Nat.add_lt_add_left h.1 _⟩
theorem xP.obj {w : xD} {D : va_G} {cA : Nat → ClassId} {b : Nat} {st : XS} {H : Heap} (h : xP w D cA b st H) {j a i ci : Nat} (ho : xo w j a i) (hs : w.2.2.2.1 a = .inl ci) : ∃ r : vw_C, xCl[ci]? = some r ∧ t_OB (b + j) (D.1 ci) r.2.2 (D.2 ci) H (xV w b st a i) := by
  obtain ⟨h1, rfl, rfl⟩ := ho
  have h2 := h j h1
  unfold xat at h2
  rw [hs] at h2
  exact h2
theorem xP.arr {w : xD} {D : va_G} {cA : Nat → ClassId} {b : Nat} {st : XS} {H : Heap} (h : xP w D cA b st H) {j a i t n : Nat} (ho : xo w j a i) (hs : w.2.2.2.1 a = .inr (t, n)) : H[b + j]? = some (arrV (cA t) n (xV w b st a i)) := by
  obtain ⟨h1, rfl, rfl⟩ := ho
  have h2 := h j h1
  unfold xat at h2
  rw [hs] at h2
  exact h2
theorem xat.kept {w : xD} {D : va_G} {cA : Nat → ClassId} {b : Nat} {st st' : XS} {j : Nat} {H H1 : Heap} (h : xat w D cA b st j H) (hq : H1[b + j]? = H[b + j]?) (hv : ∀ k, st' (w.1 j) k (w.2.1 j) = st (w.1 j) k (w.2.1 j)) : xat w D cA b st' j H1 := by
  have e : xV w b st' (w.1 j) (w.2.1 j) = xV w b st (w.1 j) (w.2.1 j) := by
    funext k
    show w.2.2.1 b _ _ k _ = w.2.2.1 b _ _ k _
    rw [hv k]
  unfold xat at h ⊢
  rw [e]
  split at h
  · obtain ⟨r, h1, h2⟩ := h
    exact ⟨r, h1, h2.kept hq⟩
  · rw [hq]
    exact h
theorem xP.kept {w : xD} {D : va_G} {cA : Nat → ClassId} {b : Nat} {st : XS} {H H1 : Heap} (h : xP w D cA b st H) (hq : ∀ q, xA w b q → H1[q]? = H[q]?) : xP w D cA b st H1 :=
  fun j hj => (h j hj).kept (hq _ ⟨Nat.le_add_right _ _, Nat.add_lt_add_left hj _⟩) (fun _ => rfl)
theorem xP.put {w : xD} (hw : xinj w) {D : va_G} {cA : Nat → ClassId} {b : Nat} {st : XS} {H H1 : Heap} (h : xP w D cA b st H) {j a i k : Nat} {v : Int32} (ho : xo w j a i) (hj : xat w D cA b (xu st a k i v) j H1) (oq : ∀ q, q ≠ b + j → H1[q]? = H[q]?) : xP w D cA b (xu st a k i v) H1 := by
  intro j' hj'
  by_cases e : j' = j
  · subst e
    exact hj
  · refine (h j' hj').kept (oq _ (by omega)) (fun k' => xu_n ?_)
    rintro ⟨h1, -, h2⟩
    exact e (hw j' j hj' ho.1 (h1.trans ho.2.1.symm) (h2.trans ho.2.2.symm))
/-- a class of the list, its words among the good ones -/
def xcl (ci : Nat) (C : String) (T : u_T) (N : Nat) (ty : Nat → FieldType) : Prop := xCl[ci]? = some (C, T, N) ∧ (∀ w ∈ u_ws C T N, w ∈ wsG) ∧ (∀ k, k < N → parseFieldDescriptor (T k).2.2.1 = some (ty k)) ∧ ∀ a, a < N → ∀ b, b < N → a ≠ b → (T a).2.1 ≠ (T b).2.1
abbrev xTy (cA : Nat → ClassId) : List (ClassId × FieldType) := [(cA 0, .int), (cA 1, .boolean), (cA 2, .long), (cA 3, .object R_DE), (cA 4, .object R_DI), (cA 5, .object R_OR), (cA 6, .object R_ME), (cA 7, .object R_CH)]
/-- what stays the same throughout a body -/
def xCx (p : Program) (s : State) (m : MethodId) (args : Array Value) (c : Code) (cc : ByteArray) (own : String) (D : va_G) (cA : Nat → ClassId) : Prop :=
  p.tables.exec = Jvm.exec ∧ c.code = cc ∧ s.vm.findClass own = some m.cls ∧ (∀ w ∈ wsG, w.before args s = true) ∧ va_K D xCl (xTy cA) s ∧ KN s
section XG
variable {p : Program} {l : Launch} {e : Env} {R : Room} {s : State} {m : MethodId} {args : Array Value} {below : List Frame} {meth : Method} {c : Code} {H : Heap} {locs : List Loc} {cells slots : Nat} {Q : State → Prop}
variable {cc : ByteArray} {pc : Nat} {ls : Array Slot} {rest : List Value} {own : String} {D : va_G} {cA : Nat → ClassId} {w : xD} {b : Nat} {st : XS} {H0 : Heap}
theorem xget (C : xCx p s m args c cc own D cA) (hP : xP w D cA b st H) {j a i ci : Nat} (ho : xo w j a i) (hs : w.2.2.2.1 a = .inl ci) {Cn : String} {T : u_T} {N : Nat} {ty : Nat → FieldType} (hc : xcl ci Cn T N ty) {k idx : Nat} (hk : k < N) (hl : Cond.fieldLink own idx (T k).1 (T k).2.1 (T k).2.2.1 ∈ wsG) {v : Value} (hv : w.2.2.1 b a i k (st a k i) = v) (hdg : decode cc pc = .ok (.getfield idx, 3))
    (kk : W p l e R s m args below meth c H locs cells slots Q (F0 m (pc + 3) ls (v :: rest))) : W p l e R s m args below meth c H locs cells slots Q (F0 m pc ls (.ref (b + j) :: rest)) := by
  obtain ⟨r, h1, cell, q1, q2, q3, q4⟩ := hP.obj ho hs
  cases Option.some.inj (h1.symm.trans hc.1)
  obtain ⟨hS, hfc, kC, hkC, hkind⟩ := C.2.2.2.2.1.1 ci _ hc.1
  obtain ⟨cf, kf, fi, f, hi, hsl⟩ := hS k hk
  refine W.getf C.1 C.2.1 C.2.2.1 (C.2.2.2.1 _ hl) hi (u_facts hfc hkC (u_lays C.2.2.2.1 hc.2.1 hk) hi).1 q1 (by rw [q3]; exact fun h => by cases h) (v := v) ?_ rfl rfl hdg kk
  rw [hsl, q4 k hk]
  exact congrArg some hv
theorem xgetN (C : xCx p s m args c cc own D cA) (hP : xP w D cA b st H) {j a i ci : Nat} (ho : xo w j a i) (hs : w.2.2.2.1 a = .inl ci) {Cn : String} {T : u_T} {N : Nat} {ty : Nat → FieldType} (hc : xcl ci Cn T N ty) {k idx : Nat} (hk : k < N) (hl : Cond.fieldLinkNest own idx (T k).1 (T k).2.1 (T k).2.2.1 "BedsideNet" ∈ tables_1) {v : Value} (hv : w.2.2.1 b a i k (st a k i) = v) (hdg : decode cc pc = .ok (.getfield idx, 3))
    (kk : W p l e R s m args below meth c H locs cells slots Q (F0 m (pc + 3) ls (v :: rest))) : W p l e R s m args below meth c H locs cells slots Q (F0 m pc ls (.ref (b + j) :: rest)) := by
  obtain ⟨r, h1, cell, q1, q2, q3, q4⟩ := hP.obj ho hs
  cases Option.some.inj (h1.symm.trans hc.1)
  obtain ⟨hS, hfc, kC, hkC, hkind⟩ := C.2.2.2.2.1.1 ci _ hc.1
  obtain ⟨cf, kf, fi, f, hi, hsl⟩ := hS k hk
  refine va_Wgetf C.1 C.2.1 C.2.2.1 (va_Nw.use rfl (C.2.2.2.2.2 _ hl rfl)) hi (u_facts hfc hkC (u_lays C.2.2.2.1 hc.2.1 hk) hi).1 q1 (by rw [q3]; exact fun h => by cases h) (v := v) ?_ rfl rfl hdg kk
  rw [hsl, q4 k hk]
  exact congrArg some hv
/-- the object behind a store -/
theorem xstored (hw : xinj w) (hP : xP w D cA b st H) {j a i ci : Nat} (ho : xo w j a i) (hs : w.2.2.2.1 a = .inl ci) {r : vw_C} (hr : xCl[ci]? = some r) {k : Nat} {x : Int32} {H1 : Heap} {cell : Cell} (q2 : cell.cls = D.1 ci) (q3 : cell.vm = .none) (e1 : H1[b + j]? = some cell) (hvv : ∀ n, n < r.2.2 → cell.slots[D.2 ci n]? = some (updV (xV w b st a i) k (w.2.2.1 b a i k x) n)) (oq : ∀ q, q ≠ b + j → H1[q]? = H[q]?) : xP w D cA b (xu st a k i x) H1 := by
  refine hP.put hw ho ?_ oq
  obtain ⟨h1, rfl, rfl⟩ := ho
  unfold xat
  rw [hs]
  refine ⟨r, hr, cell, e1, q2, q3, fun n hn => ?_⟩
  rw [hvv n hn]
  congr 1
  unfold updV
  show _ = w.2.2.1 b (w.1 j) (w.2.1 j) n (xu st (w.1 j) k (w.2.1 j) x (w.1 j) n (w.2.1 j))
  by_cases hnk : n = k
  · subst hnk
    rw [if_pos rfl, xu_s]
  · rw [if_neg hnk, xu_n (by rintro ⟨-, h, -⟩; exact hnk h)]
theorem xput (hw : xinj w) (C : xCx p s m args c cc own D cA) (hP : xP w D cA b st H) (hS0 : va_S (xA w b) H0 H locs) {j a i ci : Nat} (ho : xo w j a i) (hs : w.2.2.2.1 a = .inl ci) {Cn : String} {T : u_T} {N : Nat} {ty : Nat → FieldType} (hc : xcl ci Cn T N ty) {k idx : Nat} (hk : k < N) (hl : Cond.fieldLink own idx (T k).1 (T k).2.1 (T k).2.2.1 ∈ wsG) (hfin : (T k).2.2.2 = false) {x : Int32} (hv : w.2.2.1 b a i k x = .int x) (hn : narrow (ty k) (.int x) = .int x) (hft : fits (ty k) (.int x) = true) (hdg : decode cc pc = .ok (.putfield idx, 3))
    (kk : ∀ (H1 : Heap) (locs1 : List Loc), xP w D cA b (xu st a k i x) H1 → va_S (xA w b) H0 H1 locs1 → W p l e R s m args below meth c H1 locs1 cells slots Q (F0 m (pc + 3) ls rest)) : W p l e R s m args below meth c H locs cells slots Q (F0 m pc ls (.int x :: .ref (b + j) :: rest)) := by
  have hap := va_apart (own := own) C.2.2.2.1 hc.2.1 ty hc.2.2.1 hc.2.2.2 C.2.2.2.2.1 hc.1
  obtain ⟨r, h1, cell, q1, q2, q3, q4⟩ := hP.obj ho hs
  cases Option.some.inj (h1.symm.trans hc.1)
  obtain ⟨hS, hfc, kC, hkC, hkind⟩ := C.2.2.2.2.1.1 ci _ hc.1
  obtain ⟨cf, kf, fi, f, hi, hsl⟩ := hS k hk
  have hlay := C.2.2.2.1 _ (hc.2.1 _ (u_in_lay hk))
  unfold u_lay at hlay
  rw [if_neg (by rw [hfin]; decide)] at hlay
  have hst := (u_facts hfc hkC (u_lays C.2.2.2.1 hc.2.1 hk) hi).1
  have h6 := u_store hfc hkC hkind hlay hi (hc.2.2.1 k hk) hn hft
  refine W.putK C.1 C.2.1 (f := f) ⟨C.2.2.1, C.2.2.2.1 _ hl, ⟨_, _, _, hi⟩, hst⟩ (by rw [q2]; exact h6) q1 q3 (by rw [hsl]; exact k2_hasslot (q4 k hk)) rfl rfl hdg fun H' e1 e2 e3 => ?_
  rw [hsl] at e1 ⊢
  exact kk H' _ (xstored hw hP ho hs hc.1 (cell := cell.setSlot (D.2 ci k) (.int x)) q2 q3 e1 (by rw [hv]; exact t_set q4 hap hk _) e3) (hS0.put e2 e3 ho.A)
theorem xputN (hw : xinj w) (C : xCx p s m args c cc own D cA) (hP : xP w D cA b st H) (hS0 : va_S (xA w b) H0 H locs) {j a i ci : Nat} (ho : xo w j a i) (hs : w.2.2.2.1 a = .inl ci) {Cn : String} {T : u_T} {N : Nat} {ty : Nat → FieldType} (hc : xcl ci Cn T N ty) {k idx : Nat} (hk : k < N) (hl : Cond.fieldLinkNest own idx (T k).1 (T k).2.1 (T k).2.2.1 "BedsideNet" ∈ tables_1) (hfin : (T k).2.2.2 = false) {x : Int32} (hv : w.2.2.1 b a i k x = .int x) (hn : narrow (ty k) (.int x) = .int x) (hft : fits (ty k) (.int x) = true) (hdg : decode cc pc = .ok (.putfield idx, 3))
    (kk : ∀ (H1 : Heap) (locs1 : List Loc), xP w D cA b (xu st a k i x) H1 → va_S (xA w b) H0 H1 locs1 → W p l e R s m args below meth c H1 locs1 cells slots Q (F0 m (pc + 3) ls rest)) : W p l e R s m args below meth c H locs cells slots Q (F0 m pc ls (.int x :: .ref (b + j) :: rest)) := by
  have hap := va_apart (own := own) C.2.2.2.1 hc.2.1 ty hc.2.2.1 hc.2.2.2 C.2.2.2.2.1 hc.1
  obtain ⟨r, h1, cell, q1, q2, q3, q4⟩ := hP.obj ho hs
  cases Option.some.inj (h1.symm.trans hc.1)
  obtain ⟨hS, hfc, kC, hkC, hkind⟩ := C.2.2.2.2.1.1 ci _ hc.1
  obtain ⟨cf, kf, fi, f, hi, hsl⟩ := hS k hk
  have hlay := C.2.2.2.1 _ (hc.2.1 _ (u_in_lay hk))
  unfold u_lay at hlay
  rw [if_neg (by rw [hfin]; decide)] at hlay
  have hst := (u_facts hfc hkC (u_lays C.2.2.2.1 hc.2.1 hk) hi).1
  have h6 := u_store hfc hkC hkind hlay hi (hc.2.2.1 k hk) hn hft
  refine va_WputK C.1 C.2.1 (f := f) C.2.2.1 (va_Nw.use rfl (C.2.2.2.2.2 _ hl rfl)) hi hst (by rw [q2]; exact h6) q1 q3 (by rw [hsl]; exact k2_hasslot (q4 k hk)) rfl rfl hdg fun H' e1 e2 e3 => ?_
  rw [hsl] at e1 ⊢
  exact kk H' _ (xstored hw hP ho hs hc.1 (cell := cell.setSlot (D.2 ci k) (.int x)) q2 q3 e1 (by rw [hv]; exact t_set q4 hap hk _) e3) (hS0.put e2 e3 ho.A)
end XG
