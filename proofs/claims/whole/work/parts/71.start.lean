/-! what the tables know, at the law's entry -/
section STA
theorem nn12 {n : Nat} {r : vw_C} (h : xCl[n + 12]? = some r) : False := by
  have : n + 12 < 12 := (List.getElem?_eq_some_iff.mp h).1
  omega
theorem q_cls {s : State} {args : Array Value} (hG : ∀ w ∈ wsG, w.before args s = true) : ∃ D : va_G, ∀ (c : Nat) (q : vw_C), xCl[c]? = some q → u_Kn s q.1 q.2.1 q.2.2 (D.1 c) (D.2 c) := by
  have hk : ∀ ci : Nat, ∃ q : ClassId × (Nat → Nat), ∀ r, xCl[ci]? = some r → u_Kn s r.1 r.2.1 r.2.2 q.1 q.2 := by
    intro ci
    match ci with
    | 0 => obtain ⟨c, i, h⟩ := u_known hG c_AL.2.1 (hG _ wg_180); exact ⟨(c, i), fun r hr => by cases hr; exact h⟩
    | 1 => obtain ⟨c, i, h⟩ := u_known hG c_CH.2.1 (hG _ wg_172); exact ⟨(c, i), fun r hr => by cases hr; exact h⟩
    | 2 => obtain ⟨c, i, h⟩ := u_known hG c_DE.2.1 (hG _ wg_114); exact ⟨(c, i), fun r hr => by cases hr; exact h⟩
    | 3 => obtain ⟨c, i, h⟩ := u_known hG c_DI.2.1 (hG _ wg_317); exact ⟨(c, i), fun r hr => by cases hr; exact h⟩
    | 4 => obtain ⟨c, i, h⟩ := u_known hG c_KN.2.1 (hG _ wg_221); exact ⟨(c, i), fun r hr => by cases hr; exact h⟩
    | 5 => obtain ⟨c, i, h⟩ := u_known hG c_ME.2.1 (hG _ wg_43); exact ⟨(c, i), fun r hr => by cases hr; exact h⟩
    | 6 => obtain ⟨c, i, h⟩ := u_known hG c_OR.2.1 (hG _ wg_353); exact ⟨(c, i), fun r hr => by cases hr; exact h⟩
    | 7 => obtain ⟨c, i, h⟩ := u_known hG c_PO.2.1 (hG _ wg_36); exact ⟨(c, i), fun r hr => by cases hr; exact h⟩
    | 8 => obtain ⟨c, i, h⟩ := u_known hG c_RA.2.1 (hG _ wg_128); exact ⟨(c, i), fun r hr => by cases hr; exact h⟩
    | 9 => obtain ⟨c, i, h⟩ := u_known hG c_SE.2.1 (hG _ wg_122); exact ⟨(c, i), fun r hr => by cases hr; exact h⟩
    | 10 => obtain ⟨c, i, h⟩ := u_known hG c_BN.2.1 (hG _ wg_22); exact ⟨(c, i), fun r hr => by cases hr; exact h⟩
    | 11 => obtain ⟨c, i, h⟩ := u_known hG c_MO.2.1 (hG _ wg_867); exact ⟨(c, i), fun r hr => by cases hr; exact h⟩
    | n + 12 => exact ⟨(0, id), fun r hr => (nn12 hr).elim⟩
  exact ⟨(fun c => (Classical.choose (hk c)).1, fun c => (Classical.choose (hk c)).2), fun c q hq => Classical.choose_spec (hk c) q hq⟩
def arK (s : State) (c : ClassId) (ty : FieldType) : Prop := ArrOfT s c ty ∧ va_RA s c ty
theorem q_ap {s : State} {args : Array Value} {ty : FieldType} (h : (Cond.arrayClass ty).before args s = true) (hno : ∀ C, ty ≠ .object C) : ∃ c, arK s c ty := by
  obtain ⟨c, k, comp, h1, h2, h3⟩ := Cond.arrayClass_spec h
  refine ⟨c, fun n z => ⟨fun k h => (by cases h), k, h2, comp, h3⟩, ?_⟩
  unfold va_RA
  cases ty with
  | object C => exact absurd rfl (hno C)
  | _ => exact h1
theorem q_ao {s : State} {E : String} (h : va_AO E s) : ∃ c, arK s c (.object E) := by
  obtain ⟨comp, c, k, h1, -, h3, h4, h5⟩ := Cond.arrayOver_spec h
  exact ⟨c, fun n z => ⟨fun k h => (by cases h), k, h3, comp, h4⟩, k, comp, h3, h4, h1, h5⟩
theorem q_arr {s : State} {args : Array Value} (hG : ∀ w ∈ wsG, w.before args s = true) (hA : KA s) : ∃ cA : Nat → ClassId, ∀ (k : Nat) (q : ClassId × FieldType), (xTy cA)[k]? = some q → ArrOfT s q.1 q.2 ∧ va_RA s q.1 q.2 := by
  obtain ⟨c0, h0⟩ := q_ap (hG _ wg_94) (fun _ z => by cases z)
  obtain ⟨c1, h1⟩ := q_ap (hG _ wg_1064) (fun _ z => by cases z)
  obtain ⟨c2, h2⟩ := q_ap (hG _ wg_1266) (fun _ z => by cases z)
  obtain ⟨c3, h3⟩ := q_ao hA.1
  obtain ⟨c4, h4⟩ := q_ao hA.2.1
  obtain ⟨c5, h5⟩ := q_ao hA.2.2.1
  obtain ⟨c6, h6⟩ := q_ao hA.2.2.2.1
  obtain ⟨c7, h7⟩ := q_ao hA.2.2.2.2
  refine ⟨fun i => if i = 0 then c0 else if i = 1 then c1 else if i = 2 then c2 else if i = 3 then c3 else if i = 4 then c4 else if i = 5 then c5 else if i = 6 then c6 else c7, fun k q hq => ?_⟩
  match k with
  | 0 => cases hq; exact h0
  | 1 => cases hq; exact h1
  | 2 => cases hq; exact h2
  | 3 => cases hq; exact h3
  | 4 => cases hq; exact h4
  | 5 => cases hq; exact h5
  | 6 => cases hq; exact h6
  | 7 => cases hq; exact h7
  | n + 8 => exact absurd (List.getElem?_eq_some_iff.mp hq).1 (by show ¬ n + 8 < 8; omega)
theorem q_KN {s : State} {args : Array Value} (hts : ∀ w ∈ tables_1, w.before args s = true) : KN s := fun w hw hn => by
  have h := hts w hw
  cases w <;> first | (simp [nW] at hn; done) | exact va_Nw.of rfl h
theorem q_KT {s : State} {args : Array Value} (hts : ∀ w ∈ tables_1, w.before args s = true) : KT s := fun w hw hn => by
  have h := hts w hw
  cases w <;> first | (simp [tW] at hn; done) | exact va_Nw.of rfl h
theorem q_KA {s : State} {args : Array Value} (hts : ∀ w ∈ tables_1, w.before args s = true) : KA s := ⟨va_AO.of (hts _ wn_30), va_AO.of (hts _ wn_32), va_AO.of (hts _ wn_34), va_AO.of (hts _ wn_42), va_AO.of (hts _ wn_120)⟩
variable {p : Program} {l : Launch} {e : Env} {R : Room} {s : State} {m : MethodId} {args : Array Value} {below : List Frame} {meth : Method} {c : Code} {H : Heap} {locs : List Loc} {cells slots : Nat} {Q : State → Prop}
variable {cc : ByteArray} {pc : Nat} {ls : Array Slot} {rest : List Value} {own : String} {D : va_G} {cA : Nat → ClassId} {H0 : Heap} {A : Nat → Prop}
theorem ycallM {idx nL a n ms : Nat} {rm : Room} (C : xCx p s m args c cc own D cA) (hKA : KA s) (hml : c.maxLocals = nL) (hsz : ls.size = nL) (hM : xIm D cA l (Cond.code y_MO_init b_MO_init 2 none) rm a n ms) (h0 : rm.cells = n) (h1 : rm.slots = ms) (hl : Cond.methodLink own idx y_MO_init ∈ wsG) (hi : Cond.instanceMethod y_MO_init ∈ wsG) (hR : rm.frames + 1 ≤ R.frames ∧ 8 + (2 + 11) + rm.locals ≤ R.locals) (hc1 : cells + n ≤ R.cells) (hs1 : slots + ms ≤ R.slots) (hz : H.size = a + 1) (hob : xob D 11 a v0M H) (hS : va_S A H0 H locs) (hA : ∀ q, xAi a (a + 1) q → A q) (hrs : (rest.map fun v => v.category).sum ≤ 8) (hdg : decode cc pc = .ok (.invokespecial idx, 3))
    (kk : ∀ (H1 : Heap) (locs1 : List Loc), xP mw D cA a mt0 H1 → (∀ q, q < a → H1[q]? = H[q]?) → va_S A H0 H1 locs1 → W p l e R s m args below meth c H1 locs1 (cells + n) (slots + ms) Q (F0 m (pc + 3) ls rest)) : W p l e R s m args below meth c H locs cells slots Q (F0 m pc ls (.ref a :: rest)) := by
  have hbl : FrameBlind (va_Pc [.ref a] (fun U => U.heap.size = a + 1 ∧ xob D 11 a v0M U.heap ∧ xK0 D cA U)) := xIc.blind
  refine va_callv (va_runI (Ts := wsG) (nL := nL) (As := []) (rest := rest) ⟨C.1, C.2.1, hml, C.2.2.1, C.2.2.2.1⟩ hM ⟨callB_of (Ts := wsG) 0 C.2.2.2.1 (xgood' q_MO_init.1) rfl h0 h1 (C.2.2.2.1 _ q_MO_init.2.1) (C.2.2.2.1 _ hl) q_MO_init.2.2 hR, rfl, C.2.2.2.1 _ hi⟩ ⟨hbl, fun U hU hW => ⟨rfl, by rw [hU]; exact hz, by rw [hU]; exact hob, va_K.moved hW.alike C.2.2.2.2.1, KN.moved hW C.2.2.2.2.2, hKA.moved hW.alike⟩⟩ rfl rfl hsz rfl (lv_room hrs) hdg ⟨hc1, hs1⟩) hS (fun q _ h => hA q h) hA ?_
  rintro u t H1 locs1 ht - - hB hz1 hk1 hS1
  rw [ht] at hB
  exact kk H1 locs1 hB (fun q h1 => hk1 q (by omega) (fun z9 => by unfold xAi at z9; omega)) hS1
set_option maxRecDepth 100000 in
set_option maxHeartbeats 4000000 in
theorem q_start {b0 L : Nat} {xs : Nat → Int32} (C : xCx p s m #[.ref b0] c b_LA_law R_LA D cA) (hKA : KA s) (hlt : l.stackTraces = false) (hml : c.maxLocals = 7) (hKT : KT s) (z1 : zst tThr "UNASSIGNED_STACK" dSte s.heap.size s) (z2 : zst tThr "SUPPRESSED_SENTINEL" dLst s.heap.size s) (hNC : xNC s) (hX : va_X b0 L xs s s.heap) (hbl : b0 < s.heap.size) (hL : L ≤ 3072) (hl : lv_has ls 7 [(0, .ref b0)])
    (kx : ∀ (H : Heap) (locs : List Loc) (ls : Array Slot) (cells slots : Nat), va_S (LA0 s) s.heap H locs → cells ≤ 613765 → slots ≤ 7254809 → W p l e room_1 s m #[.ref b0] below meth c H locs cells slots Q (F0 m 1338 ls [])) :
    W p l e room_1 s m #[.ref b0] below meth c s.heap [] 0 0 Q (F0 m 0 ls []) := by
  have hS : va_S (LA0 s) s.heap s.heap [] := va_S.rf
  obtain ⟨b1, hb1⟩ : ∃ b1, s.heap.size = b1 := ⟨_, rfl⟩
  refine ynew C c_BN (V := v0n 6) wg_21 wg_22 wg_1 hb1 v_BN (Nat.le_of_ble_eq_true rfl) (Nat.le_of_ble_eq_true rfl) hS d_LA_law_0 (fun H hT hz o1 hS => ?_)
  refine lv_dup C.1 C.2.1 d_LA_law_3 rfl ?_
  refine ycallB (rest := [.ref b1]) C hKA hml hl.1 (k_BN_init l D cA b1 (b1 + 1) (by omega)) q_BN_init rfl rfl wg_23 wg_24 rfl ⟨Nat.le_of_ble_eq_true rfl, Nat.le_of_ble_eq_true rfl⟩ (Nat.le_of_ble_eq_true rfl) (Nat.le_of_ble_eq_true rfl) hz hT hS (fun q hq => by unfold xAi at hq; unfold LA0; omega) (Nat.le_of_ble_eq_true rfl) d_LA_law_4 (fun H locs hB hz2 _ hS => ?_)
  have hP1 := bBN_xP hB
  refine lv_astore_n C.1 C.2.1 d_LA_law_7 rfl hl (by decide) rfl (fun ls hl => ?_)
  have hz3 : H.size = b1 + 349 := by omega
  refine ynew C c_MO (V := v0M) wg_866 wg_867 wg_12 hz3 v_MO (Nat.le_of_ble_eq_true rfl) (Nat.le_of_ble_eq_true rfl) hS d_LA_law_8 (fun H1 hT hz o1 hS => ?_)
  have hP1 : xP cw D cA b1 st0 H1 := hP1.kept (fun q hq => o1 q hq.2)
  refine lv_dup C.1 C.2.1 d_LA_law_11 rfl ?_
  refine ycallM (rest := [.ref (b1 + 349)]) C hKA hml hl.1 (k_MO_init l D cA (b1 + 349)) rfl rfl wg_868 wg_869 ⟨Nat.le_of_ble_eq_true rfl, Nat.le_of_ble_eq_true rfl⟩ (Nat.le_of_ble_eq_true rfl) (Nat.le_of_ble_eq_true rfl) hz hT hS (fun q hq => by unfold xAi at hq; unfold LA0; omega) (Nat.le_of_ble_eq_true rfl) d_LA_law_12 (fun H2 locs hP2 o2 hS => ?_)
  have hP1 : xP cw D cA b1 st0 H2 := hP1.kept (fun q hq => o2 q hq.2)
  refine lv_astore_n C.1 C.2.1 d_LA_law_15 rfl hl (by decide) rfl (fun ls hl => ?_)
  refine lv_iconst (v := 1) C.1 C.2.1 d_LA_law_16 (by decide) ?_
  obtain ⟨o, ho⟩ : ∃ o, H2.size = o := ⟨_, rfl⟩
  have hoo : b1 + 349 + 55 < o := by
    rw [← ho]
    exact hP2.lt ⟨by omega, by show b1 + 349 + 55 < b1 + 349 + 56; omega⟩
  refine ynewa (N := 1) (atype := .long) (ty := .long) C (t := 2) wg_1266 rfl (fun _ z => by cases z) rfl ho (by decide) (by decide) (by decide) (Nat.le_of_ble_eq_true rfl) (Nat.le_of_ble_eq_true rfl) hS d_LA_law_17 (fun H3 hA hz4 o3 hS => ?_)
  have hP1 : xP cw D cA b1 st0 H3 := hP1.kept (fun q hq => o3 q (by have h2 : q < b1 + 349 := hq.2; omega))
  have hP2 : xP mw D cA (b1 + 349) mt0 H3 := hP2.kept (fun q hq => o3 q (by have h2 : q < b1 + 349 + 56 := hq.2; omega))
  refine lv_astore_n C.1 C.2.1 d_LA_law_19 rfl hl (by decide) rfl (fun ls hl => ?_)
  refine lv_iconst (v := 0) C.1 C.2.1 d_LA_law_20 (by decide) ?_
  refine lv_istore C.1 C.2.1 d_LA_law_21 hl (by decide) rfl (fun ls hl => ?_)
  have K : LC p l s m meth c D cA b0 L xs b1 (b1 + 349) o := ⟨C, hlt, hml, hKT, by rw [← hb1]; exact z1, by rw [← hb1]; exact z2, hNC, hX, hbl, hL, hb1.symm, by omega, by omega⟩
  exact q_loop K kx 513 0 st0 mt0 0 H3 locs ls _ _ rfl RR_0 Rz_0 ⟨hP1, hP2, hA, hS⟩ (lv_sub hl [4, 3, 2, 1, 0] rfl) (Nat.le_of_ble_eq_true rfl) (Nat.le_of_ble_eq_true rfl)
end STA
