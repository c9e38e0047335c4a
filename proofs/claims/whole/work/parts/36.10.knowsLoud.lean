def g_MO_knowsLoud_6 : Nat → XS → Int32 → Int32 → Int32 → Int32
  | 0, st, a1, c2, x3 => c2
  | n + 1, st, a1, c2, x3 =>
    if ((4 * a1) + 4) ≤ x3 then c2
    else if c2 = 0 then (if (st 33 x3.toNatClampNeg 0) = 2 then (g_MO_knowsLoud_6 n st a1 1 (x3 + 1))
      else (g_MO_knowsLoud_6 n st a1 0 (x3 + 1)))
    else (g_MO_knowsLoud_6 n st a1 1 (x3 + 1))
set_option maxRecDepth 100000 in
set_option maxHeartbeats 4000000 in
theorem w_MO_knowsLoud_6 (l : Launch) (D : va_G) (cA : Nat → ClassId) (b : Nat) (a1 : Int32) (hd1 : vp_in a1 8) {p : Program} {e : Env} {s : State} {m : MethodId} {below : List Frame} {meth : Method} {c : Code} {Q : State → Prop} (C : xCx p s m ([.ref (b + 0), .int a1] : List Value).toArray c b_MO_knowsLoud y_MO_knowsLoud.cls D cA) (hml : c.maxLocals = 4) (st : XS) {ec2 : Int32} (kx : ∀ (H1 : Heap) (locs1 : List Loc) (ls1 : Array Slot), xP mw D cA b st H1 → va_S (xA mw b) s.heap H1 locs1 → lv_has ls1 4 [(0, .ref (b + 0)), (1, .int a1), (2, .int ec2)] → W p l e { frames := 0, cells := 0, slots := 0, locals := 0 } s m ([.ref (b + 0), .int a1] : List Value).toArray below meth c H1 locs1 0 0 Q (F0 m 41 ls1 [])) : ∀ (n : Nat) (c2 x3 : Int32) (H : Heap) (locs : List Loc) (ls : Array Slot), lpi 32 n x3 → lv_has ls 4 [(0, .ref (b + 0)), (1, .int a1), (2, .int c2), (3, .int x3)] → xP mw D cA b st H → va_S (xA mw b) s.heap H locs → g_MO_knowsLoud_6 n st a1 c2 x3 = ec2 → W p l e { frames := 0, cells := 0, slots := 0, locals := 0 } s m ([.ref (b + 0), .int a1] : List Value).toArray below meth c H locs 0 0 Q (F0 m 6 ls []) := by
  intro n
  induction n with
  | zero =>
    intro c2 x3 H locs ls hx
    exact absurd hx (fun h => lpi_no h)
  | succ n ih =>
    intro c2 x3 H locs ls hx hl hP hS hg
    refine lv_iload_n C.1 C.2.1 d_MO_knowsLoud_6 rfl (lv_at hl 3 rfl) ?_
    refine lv_iconst (v := 4) C.1 C.2.1 d_MO_knowsLoud_7 (by decide) ?_
    refine lv_iload_n C.1 C.2.1 d_MO_knowsLoud_8 rfl (lv_at hl 1 rfl) ?_
    refine lv_imul C.1 C.2.1 d_MO_knowsLoud_9 ?_
    refine lv_iconst (v := 4) C.1 C.2.1 d_MO_knowsLoud_10 (by decide) ?_
    refine lv_iadd C.1 C.2.1 d_MO_knowsLoud_11 ?_
    refine lv_icmp_ge (tgt := 41) C.1 C.2.1 d_MO_knowsLoud_12 (by decide) (fun h1 => ?_) (fun h1 => ?_)
    · rw [g_MO_knowsLoud_6, if_pos h1] at hg
      subst hg
      exact kx _ _ ls hP hS (lv_sub hl [0, 1, 2] rfl)
    · refine lv_iload_n C.1 C.2.1 d_MO_knowsLoud_15 rfl (lv_at hl 2 rfl) ?_
      refine lv_if_ne (tgt := 29) C.1 C.2.1 d_MO_knowsLoud_16 (by decide) (fun h2 => ?_) (fun h2 => ?_)
      · refine lv_iconst (v := 1) C.1 C.2.1 d_MO_knowsLoud_29 (by decide) ?_
        refine lv_goto (tgt := 34) C.1 C.2.1 d_MO_knowsLoud_30 (by decide) ?_
        refine lv_istore_n C.1 C.2.1 d_MO_knowsLoud_34 rfl hl (by decide) rfl (fun ls hl => ?_)
        have hl : lv_has ls 4 [(2, .int 1), (0, .ref (b + 0)), (1, .int a1), (3, .int x3)] := hl
        refine lv_iinc (v := (x3 + 1)) C.1 C.2.1 d_MO_knowsLoud_35 hl (k := 3) rfl rfl (by decide) rfl (fun ls hl => ?_)
        have hl : lv_has ls 4 [(3, .int (x3 + 1)), (2, .int 1), (0, .ref (b + 0)), (1, .int a1)] := hl
        refine lv_goto (tgt := 6) C.1 C.2.1 d_MO_knowsLoud_38 (by decide) ?_
        rw [g_MO_knowsLoud_6, if_neg h1, if_neg h2] at hg
        exact ih _ _ _ _ ls (lpi_nx hx (lpi_c hx h1 (q4 hd1)) (by decide)) (lv_sub hl [2, 3, 1, 0] rfl) hP hS hg
      · refine lv_aload_n C.1 C.2.1 d_MO_knowsLoud_19 rfl (lv_at hl 0 rfl) ?_
        refine xget C hP o_MO rfl c_MO (k := 36) (v := .ref (b + 33)) (by decide) wg_913 rfl d_MO_knowsLoud_20 ?_
        refine lv_iload_n C.1 C.2.1 d_MO_knowsLoud_23 rfl (lv_at hl 3 rfl) ?_
        refine xiald C hP om_33 rfl (v := (st 33 x3.toNatClampNeg 0)) (lpi_ix hx (lpi_c hx h1 (q4 hd1)) (by decide)) rfl d_MO_knowsLoud_24 ?_
        refine lv_iconst (v := 2) C.1 C.2.1 d_MO_knowsLoud_25 (by decide) ?_
        refine lv_icmp_ne (tgt := 33) C.1 C.2.1 d_MO_knowsLoud_26 (by decide) (fun h3 => ?_) (fun h3 => ?_)
        · refine lv_iconst (v := 0) C.1 C.2.1 d_MO_knowsLoud_33 (by decide) ?_
          refine lv_istore_n C.1 C.2.1 d_MO_knowsLoud_34 rfl hl (by decide) rfl (fun ls hl => ?_)
          have hl : lv_has ls 4 [(2, .int 0), (0, .ref (b + 0)), (1, .int a1), (3, .int x3)] := hl
          refine lv_iinc (v := (x3 + 1)) C.1 C.2.1 d_MO_knowsLoud_35 hl (k := 3) rfl rfl (by decide) rfl (fun ls hl => ?_)
          have hl : lv_has ls 4 [(3, .int (x3 + 1)), (2, .int 0), (0, .ref (b + 0)), (1, .int a1)] := hl
          refine lv_goto (tgt := 6) C.1 C.2.1 d_MO_knowsLoud_38 (by decide) ?_
          rw [g_MO_knowsLoud_6, if_neg h1, if_pos h2, if_neg h3] at hg
          exact ih _ _ _ _ ls (lpi_nx hx (lpi_c hx h1 (q4 hd1)) (by decide)) (lv_sub hl [2, 3, 1, 0] rfl) hP hS hg
        · refine lv_iconst (v := 1) C.1 C.2.1 d_MO_knowsLoud_29 (by decide) ?_
          refine lv_goto (tgt := 34) C.1 C.2.1 d_MO_knowsLoud_30 (by decide) ?_
          refine lv_istore_n C.1 C.2.1 d_MO_knowsLoud_34 rfl hl (by decide) rfl (fun ls hl => ?_)
          have hl : lv_has ls 4 [(2, .int 1), (0, .ref (b + 0)), (1, .int a1), (3, .int x3)] := hl
          refine lv_iinc (v := (x3 + 1)) C.1 C.2.1 d_MO_knowsLoud_35 hl (k := 3) rfl rfl (by decide) rfl (fun ls hl => ?_)
          have hl : lv_has ls 4 [(3, .int (x3 + 1)), (2, .int 1), (0, .ref (b + 0)), (1, .int a1)] := hl
          refine lv_goto (tgt := 6) C.1 C.2.1 d_MO_knowsLoud_38 (by decide) ?_
          rw [g_MO_knowsLoud_6, if_neg h1, if_pos h2, if_pos h3] at hg
          exact ih _ _ _ _ ls (lpi_nx hx (lpi_c hx h1 (q4 hd1)) (by decide)) (lv_sub hl [2, 3, 1, 0] rfl) hP hS hg
theorem zg_MO_knowsLoud_6 {st : XS} {a1 : Int32} : ∀ (n : Nat) (c2 x3 : Int32), bz c2 = c2 → bz (g_MO_knowsLoud_6 n st a1 c2 x3) = g_MO_knowsLoud_6 n st a1 c2 x3 := by
  intro n
  induction n with
  | zero => intro c x h; exact h
  | succ n ih =>
    intro c x h
    unfold g_MO_knowsLoud_6
    repeat' split
    all_goals first | with_reducible exact h | exact ih _ _ bz_0 | exact ih _ _ bz_1 | exact ih _ _ h
def f_MO_knowsLoud (st : XS) (a1 : Int32) : Int32 :=
  (g_MO_knowsLoud_6 33 st a1 0 (4 * a1))
set_option maxRecDepth 100000 in
set_option maxHeartbeats 4000000 in
theorem z_MO_knowsLoud {st : XS} {a1 : Int32} : bz (f_MO_knowsLoud st a1) = (f_MO_knowsLoud st a1) := by
  unfold f_MO_knowsLoud
  repeat' split
  all_goals first | with_reducible exact bz_0 | with_reducible exact bz_1 | with_reducible exact bz_bz _ | exact zg_MO_knowsLoud_6 _ _ _ bz_0
set_option maxRecDepth 100000 in
set_option maxHeartbeats 4000000 in
theorem k_MO_knowsLoud (l : Launch) (D : va_G) (cA : Nat → ClassId) (b : Nat) (st : XS) (a1 : Int32) (hd1 : vp_in a1 8) : xMi mw D cA b l y_MO_knowsLoud (Cond.code y_MO_knowsLoud b_MO_knowsLoud 4 (some .boolean)) { frames := 0, cells := 0, slots := 0, locals := 0 } st [.ref (b + 0), .int a1] (f_MO_knowsLoud st a1) st := by
  refine xMi_of rfl (by decide) (Nat.le_of_ble_eq_true rfl) ?_
  intro p e s m below meth c ls C hlk hr hml hl hP hS
  have hl : lv_has ls 4 [(0, .ref (b + 0)), (1, .int a1)] := hl
  refine lv_iconst (v := 0) C.1 C.2.1 d_MO_knowsLoud_0 (by decide) ?_
  refine lv_istore_n C.1 C.2.1 d_MO_knowsLoud_1 rfl hl (by decide) rfl (fun ls hl => ?_)
  have hl : lv_has ls 4 [(2, .int 0), (0, .ref (b + 0)), (1, .int a1)] := hl
  refine lv_iconst (v := 4) C.1 C.2.1 d_MO_knowsLoud_2 (by decide) ?_
  refine lv_iload_n C.1 C.2.1 d_MO_knowsLoud_3 rfl (lv_at hl 2 rfl) ?_
  refine lv_imul C.1 C.2.1 d_MO_knowsLoud_4 ?_
  refine lv_istore_n C.1 C.2.1 d_MO_knowsLoud_5 rfl hl (by decide) rfl (fun ls hl => ?_)
  have hl : lv_has ls 4 [(3, .int (4 * a1)), (2, .int 0), (0, .ref (b + 0)), (1, .int a1)] := hl
  refine w_MO_knowsLoud_6 l D cA b a1 hd1 C hml st (fun H locs ls hP hS hl => ?_) 33 0 (4 * a1) _ _ ls (lp4_st hd1) (lv_sub hl [2, 3, 1, 0] rfl) hP hS rfl
  have hl : lv_has ls 4 [(0, .ref (b + 0)), (1, .int a1), (2, .int (g_MO_knowsLoud_6 33 st a1 0 (4 * a1)))] := hl
  refine lv_iload_n C.1 C.2.1 d_MO_knowsLoud_41 rfl (lv_at hl 2 rfl) ?_
  exact xrz C hlk hr (zg_MO_knowsLoud_6 _ _ _ bz_0) hP hS d_MO_knowsLoud_42 ⟨by rw [f_MO_knowsLoud], rfl⟩
