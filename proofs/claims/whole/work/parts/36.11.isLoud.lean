def g_MO_isLoud_6 : Nat → XS → Int32 → Int32 → Int32 → Int32
  | 0, st, a1, c2, x3 => c2
  | n + 1, st, a1, c2, x3 =>
    if ((4 * a1) + 4) ≤ x3 then c2
    else if c2 = 0 then (if (bz (st 30 x3.toNatClampNeg 0)) = 0 then (g_MO_isLoud_6 n st a1 0 (x3 + 1))
      else if (bz (st 31 x3.toNatClampNeg 0)) = 0 then (g_MO_isLoud_6 n st a1 1 (x3 + 1))
      else (g_MO_isLoud_6 n st a1 0 (x3 + 1)))
    else (g_MO_isLoud_6 n st a1 1 (x3 + 1))
set_option maxRecDepth 100000 in
set_option maxHeartbeats 4000000 in
theorem w_MO_isLoud_6 (l : Launch) (D : va_G) (cA : Nat → ClassId) (b : Nat) (a1 : Int32) (hd1 : vp_in a1 8) {p : Program} {e : Env} {s : State} {m : MethodId} {below : List Frame} {meth : Method} {c : Code} {Q : State → Prop} (C : xCx p s m ([.ref (b + 0), .int a1] : List Value).toArray c b_MO_isLoud y_MO_isLoud.cls D cA) (hml : c.maxLocals = 4) (st : XS) {ec2 : Int32} (kx : ∀ (H1 : Heap) (locs1 : List Loc) (ls1 : Array Slot), xP mw D cA b st H1 → va_S (xA mw b) s.heap H1 locs1 → lv_has ls1 4 [(0, .ref (b + 0)), (1, .int a1), (2, .int ec2)] → W p l e { frames := 0, cells := 0, slots := 0, locals := 0 } s m ([.ref (b + 0), .int a1] : List Value).toArray below meth c H1 locs1 0 0 Q (F0 m 49 ls1 [])) : ∀ (n : Nat) (c2 x3 : Int32) (H : Heap) (locs : List Loc) (ls : Array Slot), lpi 32 n x3 → lv_has ls 4 [(0, .ref (b + 0)), (1, .int a1), (2, .int c2), (3, .int x3)] → xP mw D cA b st H → va_S (xA mw b) s.heap H locs → g_MO_isLoud_6 n st a1 c2 x3 = ec2 → W p l e { frames := 0, cells := 0, slots := 0, locals := 0 } s m ([.ref (b + 0), .int a1] : List Value).toArray below meth c H locs 0 0 Q (F0 m 6 ls []) := by
  intro n
  induction n with
  | zero =>
    intro c2 x3 H locs ls hx
    exact absurd hx (fun h => lpi_no h)
  | succ n ih =>
    intro c2 x3 H locs ls hx hl hP hS hg
    refine lv_iload_n C.1 C.2.1 d_MO_isLoud_6 rfl (lv_at hl 3 rfl) ?_
    refine lv_iconst (v := 4) C.1 C.2.1 d_MO_isLoud_7 (by decide) ?_
    refine lv_iload_n C.1 C.2.1 d_MO_isLoud_8 rfl (lv_at hl 1 rfl) ?_
    refine lv_imul C.1 C.2.1 d_MO_isLoud_9 ?_
    refine lv_iconst (v := 4) C.1 C.2.1 d_MO_isLoud_10 (by decide) ?_
    refine lv_iadd C.1 C.2.1 d_MO_isLoud_11 ?_
    refine lv_icmp_ge (tgt := 49) C.1 C.2.1 d_MO_isLoud_12 (by decide) (fun h1 => ?_) (fun h1 => ?_)
    · rw [g_MO_isLoud_6, if_pos h1] at hg
      subst hg
      exact kx _ _ ls hP hS (lv_sub hl [0, 1, 2] rfl)
    · refine lv_iload_n C.1 C.2.1 d_MO_isLoud_15 rfl (lv_at hl 2 rfl) ?_
      refine lv_if_ne (tgt := 37) C.1 C.2.1 d_MO_isLoud_16 (by decide) (fun h2 => ?_) (fun h2 => ?_)
      · refine lv_iconst (v := 1) C.1 C.2.1 d_MO_isLoud_37 (by decide) ?_
        refine lv_goto (tgt := 42) C.1 C.2.1 d_MO_isLoud_38 (by decide) ?_
        refine lv_istore_n C.1 C.2.1 d_MO_isLoud_42 rfl hl (by decide) rfl (fun ls hl => ?_)
        have hl : lv_has ls 4 [(2, .int 1), (0, .ref (b + 0)), (1, .int a1), (3, .int x3)] := hl
        refine lv_iinc (v := (x3 + 1)) C.1 C.2.1 d_MO_isLoud_43 hl (k := 3) rfl rfl (by decide) rfl (fun ls hl => ?_)
        have hl : lv_has ls 4 [(3, .int (x3 + 1)), (2, .int 1), (0, .ref (b + 0)), (1, .int a1)] := hl
        refine lv_goto (tgt := 6) C.1 C.2.1 d_MO_isLoud_46 (by decide) ?_
        rw [g_MO_isLoud_6, if_neg h1, if_neg h2] at hg
        exact ih _ _ _ _ ls (lpi_nx hx (lpi_c hx h1 (q4 hd1)) (by decide)) (lv_sub hl [2, 3, 1, 0] rfl) hP hS hg
      · refine lv_aload_n C.1 C.2.1 d_MO_isLoud_19 rfl (lv_at hl 0 rfl) ?_
        refine xget C hP o_MO rfl c_MO (k := 33) (v := .ref (b + 30)) (by decide) wg_910 rfl d_MO_isLoud_20 ?_
        refine lv_iload_n C.1 C.2.1 d_MO_isLoud_23 rfl (lv_at hl 3 rfl) ?_
        refine xzald C hP om_30 rfl (v := (bz (st 30 x3.toNatClampNeg 0))) (lpi_ix hx (lpi_c hx h1 (q4 hd1)) (by decide)) rfl d_MO_isLoud_24 ?_
        refine lv_if_eq (tgt := 41) C.1 C.2.1 d_MO_isLoud_25 (by decide) (fun h3 => ?_) (fun h3 => ?_)
        · refine lv_iconst (v := 0) C.1 C.2.1 d_MO_isLoud_41 (by decide) ?_
          refine lv_istore_n C.1 C.2.1 d_MO_isLoud_42 rfl hl (by decide) rfl (fun ls hl => ?_)
          have hl : lv_has ls 4 [(2, .int 0), (0, .ref (b + 0)), (1, .int a1), (3, .int x3)] := hl
          refine lv_iinc (v := (x3 + 1)) C.1 C.2.1 d_MO_isLoud_43 hl (k := 3) rfl rfl (by decide) rfl (fun ls hl => ?_)
          have hl : lv_has ls 4 [(3, .int (x3 + 1)), (2, .int 0), (0, .ref (b + 0)), (1, .int a1)] := hl
          refine lv_goto (tgt := 6) C.1 C.2.1 d_MO_isLoud_46 (by decide) ?_
          rw [g_MO_isLoud_6, if_neg h1, if_pos h2, if_pos h3] at hg
          exact ih _ _ _ _ ls (lpi_nx hx (lpi_c hx h1 (q4 hd1)) (by decide)) (lv_sub hl [2, 3, 1, 0] rfl) hP hS hg
        · refine lv_aload_n C.1 C.2.1 d_MO_isLoud_28 rfl (lv_at hl 0 rfl) ?_
          refine xget C hP o_MO rfl c_MO (k := 34) (v := .ref (b + 31)) (by decide) wg_911 rfl d_MO_isLoud_29 ?_
          refine lv_iload_n C.1 C.2.1 d_MO_isLoud_32 rfl (lv_at hl 3 rfl) ?_
          refine xzald C hP om_31 rfl (v := (bz (st 31 x3.toNatClampNeg 0))) (lpi_ix hx (lpi_c hx h1 (q4 hd1)) (by decide)) rfl d_MO_isLoud_33 ?_
          refine lv_if_ne (tgt := 41) C.1 C.2.1 d_MO_isLoud_34 (by decide) (fun h4 => ?_) (fun h4 => ?_)
          · refine lv_iconst (v := 0) C.1 C.2.1 d_MO_isLoud_41 (by decide) ?_
            refine lv_istore_n C.1 C.2.1 d_MO_isLoud_42 rfl hl (by decide) rfl (fun ls hl => ?_)
            have hl : lv_has ls 4 [(2, .int 0), (0, .ref (b + 0)), (1, .int a1), (3, .int x3)] := hl
            refine lv_iinc (v := (x3 + 1)) C.1 C.2.1 d_MO_isLoud_43 hl (k := 3) rfl rfl (by decide) rfl (fun ls hl => ?_)
            have hl : lv_has ls 4 [(3, .int (x3 + 1)), (2, .int 0), (0, .ref (b + 0)), (1, .int a1)] := hl
            refine lv_goto (tgt := 6) C.1 C.2.1 d_MO_isLoud_46 (by decide) ?_
            rw [g_MO_isLoud_6, if_neg h1, if_pos h2, if_neg h3, if_neg h4] at hg
            exact ih _ _ _ _ ls (lpi_nx hx (lpi_c hx h1 (q4 hd1)) (by decide)) (lv_sub hl [2, 3, 1, 0] rfl) hP hS hg
          · refine lv_iconst (v := 1) C.1 C.2.1 d_MO_isLoud_37 (by decide) ?_
            refine lv_goto (tgt := 42) C.1 C.2.1 d_MO_isLoud_38 (by decide) ?_
            refine lv_istore_n C.1 C.2.1 d_MO_isLoud_42 rfl hl (by decide) rfl (fun ls hl => ?_)
            have hl : lv_has ls 4 [(2, .int 1), (0, .ref (b + 0)), (1, .int a1), (3, .int x3)] := hl
            refine lv_iinc (v := (x3 + 1)) C.1 C.2.1 d_MO_isLoud_43 hl (k := 3) rfl rfl (by decide) rfl (fun ls hl => ?_)
            have hl : lv_has ls 4 [(3, .int (x3 + 1)), (2, .int 1), (0, .ref (b + 0)), (1, .int a1)] := hl
            refine lv_goto (tgt := 6) C.1 C.2.1 d_MO_isLoud_46 (by decide) ?_
            rw [g_MO_isLoud_6, if_neg h1, if_pos h2, if_neg h3, if_pos h4] at hg
            exact ih _ _ _ _ ls (lpi_nx hx (lpi_c hx h1 (q4 hd1)) (by decide)) (lv_sub hl [2, 3, 1, 0] rfl) hP hS hg
theorem zg_MO_isLoud_6 {st : XS} {a1 : Int32} : ∀ (n : Nat) (c2 x3 : Int32), bz c2 = c2 → bz (g_MO_isLoud_6 n st a1 c2 x3) = g_MO_isLoud_6 n st a1 c2 x3 := by
  intro n
  induction n with
  | zero => intro c x h; exact h
  | succ n ih =>
    intro c x h
    unfold g_MO_isLoud_6
    repeat' split
    all_goals first | with_reducible exact h | exact ih _ _ bz_0 | exact ih _ _ bz_1 | exact ih _ _ h
def f_MO_isLoud (st : XS) (a1 : Int32) : Int32 :=
  if (g_MO_isLoud_6 33 st a1 0 (4 * a1)) = 0 then 0
  else if ((st 0 1 0) - (st 15 a1.toNatClampNeg 0)) < 3000 then 0
  else 1
set_option maxRecDepth 100000 in
set_option maxHeartbeats 4000000 in
theorem z_MO_isLoud {st : XS} {a1 : Int32} : bz (f_MO_isLoud st a1) = (f_MO_isLoud st a1) := by
  unfold f_MO_isLoud
  repeat' split
  all_goals first | with_reducible exact bz_0 | with_reducible exact bz_1 | with_reducible exact bz_bz _ | exact zg_MO_isLoud_6 _ _ _ bz_0
set_option maxRecDepth 100000 in
set_option maxHeartbeats 4000000 in
theorem k_MO_isLoud (l : Launch) (D : va_G) (cA : Nat → ClassId) (b : Nat) (st : XS) (a1 : Int32) (hd1 : vp_in a1 8) : xMi mw D cA b l y_MO_isLoud (Cond.code y_MO_isLoud b_MO_isLoud 4 (some .boolean)) { frames := 0, cells := 0, slots := 0, locals := 0 } st [.ref (b + 0), .int a1] (f_MO_isLoud st a1) st := by
  refine xMi_of rfl (by decide) (Nat.le_of_ble_eq_true rfl) ?_
  intro p e s m below meth c ls C hlk hr hml hl hP hS
  have hl : lv_has ls 4 [(0, .ref (b + 0)), (1, .int a1)] := hl
  refine lv_iconst (v := 0) C.1 C.2.1 d_MO_isLoud_0 (by decide) ?_
  refine lv_istore_n C.1 C.2.1 d_MO_isLoud_1 rfl hl (by decide) rfl (fun ls hl => ?_)
  have hl : lv_has ls 4 [(2, .int 0), (0, .ref (b + 0)), (1, .int a1)] := hl
  refine lv_iconst (v := 4) C.1 C.2.1 d_MO_isLoud_2 (by decide) ?_
  refine lv_iload_n C.1 C.2.1 d_MO_isLoud_3 rfl (lv_at hl 2 rfl) ?_
  refine lv_imul C.1 C.2.1 d_MO_isLoud_4 ?_
  refine lv_istore_n C.1 C.2.1 d_MO_isLoud_5 rfl hl (by decide) rfl (fun ls hl => ?_)
  have hl : lv_has ls 4 [(3, .int (4 * a1)), (2, .int 0), (0, .ref (b + 0)), (1, .int a1)] := hl
  refine w_MO_isLoud_6 l D cA b a1 hd1 C hml st (fun H locs ls hP hS hl => ?_) 33 0 (4 * a1) _ _ ls (lp4_st hd1) (lv_sub hl [2, 3, 1, 0] rfl) hP hS rfl
  have hl : lv_has ls 4 [(0, .ref (b + 0)), (1, .int a1), (2, .int (g_MO_isLoud_6 33 st a1 0 (4 * a1)))] := hl
  refine lv_iload_n C.1 C.2.1 d_MO_isLoud_49 rfl (lv_at hl 2 rfl) ?_
  refine lv_if_eq (tgt := 74) C.1 C.2.1 d_MO_isLoud_50 (by decide) (fun h1 => ?_) (fun h1 => ?_)
  · refine lv_iconst (v := 0) C.1 C.2.1 d_MO_isLoud_74 (by decide) ?_
    exact xrz C hlk hr bz_0 hP hS d_MO_isLoud_75 ⟨by rw [f_MO_isLoud, if_pos h1], rfl⟩
  · refine lv_aload_n C.1 C.2.1 d_MO_isLoud_53 rfl (lv_at hl 0 rfl) ?_
    refine xget C hP o_MO rfl c_MO (k := 1) (v := .int (st 0 1 0)) (by decide) wg_878 rfl d_MO_isLoud_54 ?_
    refine lv_aload_n C.1 C.2.1 d_MO_isLoud_57 rfl (lv_at hl 0 rfl) ?_
    refine xget C hP o_MO rfl c_MO (k := 18) (v := .ref (b + 15)) (by decide) wg_895 rfl d_MO_isLoud_58 ?_
    refine lv_iload_n C.1 C.2.1 d_MO_isLoud_61 rfl (lv_at hl 1 rfl) ?_
    refine xiald C hP om_15 rfl (v := (st 15 a1.toNatClampNeg 0)) hd1 rfl d_MO_isLoud_62 ?_
    refine lv_isub C.1 C.2.1 d_MO_isLoud_63 ?_
    refine lv_sipush (v := 3000) C.1 C.2.1 d_MO_isLoud_64 (by decide) ?_
    refine lv_icmp_lt (tgt := 74) C.1 C.2.1 d_MO_isLoud_67 (by decide) (fun h2 => ?_) (fun h2 => ?_)
    · refine lv_iconst (v := 0) C.1 C.2.1 d_MO_isLoud_74 (by decide) ?_
      exact xrz C hlk hr bz_0 hP hS d_MO_isLoud_75 ⟨by rw [f_MO_isLoud, if_neg h1, if_pos h2], rfl⟩
    · refine lv_iconst (v := 1) C.1 C.2.1 d_MO_isLoud_70 (by decide) ?_
      refine lv_goto (tgt := 75) C.1 C.2.1 d_MO_isLoud_71 (by decide) ?_
      exact xrz C hlk hr bz_1 hP hS d_MO_isLoud_75 ⟨by rw [f_MO_isLoud, if_neg h1, if_neg h2], rfl⟩
