def g_MO_find_4 : Nat → XS → Int32 → Int32 → Int32 → Int32
  | 0, st, a1, c2, x3 => c2
  | n + 1, st, a1, c2, x3 =>
    if (st 0 39 0) ≤ x3 then c2
    else if (st 36 x3.toNatClampNeg 0) = a1 then (g_MO_find_4 n st a1 x3 (x3 + 1))
    else (g_MO_find_4 n st a1 c2 (x3 + 1))
set_option maxRecDepth 100000 in
set_option maxHeartbeats 4000000 in
theorem w_MO_find_4 (l : Launch) (D : va_G) (cA : Nat → ClassId) (b : Nat) (a1 : Int32) {p : Program} {e : Env} {s : State} {m : MethodId} {below : List Frame} {meth : Method} {c : Code} {Q : State → Prop} (C : xCx p s m ([.ref (b + 0), .int a1] : List Value).toArray c b_MO_find y_MO_find.cls D cA) (hml : c.maxLocals = 4) (st : XS) {ec2 : Int32} (kx : ∀ (H1 : Heap) (locs1 : List Loc) (ls1 : Array Slot), xP mw D cA b st H1 → va_S (xA mw b) s.heap H1 locs1 → lv_has ls1 4 [(0, .ref (b + 0)), (1, .int a1), (2, .int ec2)] → W p l e { frames := 0, cells := 0, slots := 0, locals := 0 } s m ([.ref (b + 0), .int a1] : List Value).toArray below meth c H1 locs1 0 0 Q (F0 m 34 ls1 [])) : ∀ (n : Nat) (c2 x3 : Int32) (H : Heap) (locs : List Loc) (ls : Array Slot), lpi 64 n x3 → qok st → lv_has ls 4 [(0, .ref (b + 0)), (1, .int a1), (2, .int c2), (3, .int x3)] → xP mw D cA b st H → va_S (xA mw b) s.heap H locs → g_MO_find_4 n st a1 c2 x3 = ec2 → W p l e { frames := 0, cells := 0, slots := 0, locals := 0 } s m ([.ref (b + 0), .int a1] : List Value).toArray below meth c H locs 0 0 Q (F0 m 4 ls []) := by
  intro n
  induction n with
  | zero =>
    intro c2 x3 H locs ls hx
    exact absurd hx (fun h => lpi_no h)
  | succ n ih =>
    intro c2 x3 H locs ls hx hi hl hP hS hg
    refine lv_iload_n C.1 C.2.1 d_MO_find_4 rfl (lv_at hl 3 rfl) ?_
    refine lv_aload_n C.1 C.2.1 d_MO_find_5 rfl (lv_at hl 0 rfl) ?_
    refine xget C hP o_MO rfl c_MO (k := 39) (v := .int (st 0 39 0)) (by decide) wg_916 rfl d_MO_find_6 ?_
    refine lv_icmp_ge (tgt := 34) C.1 C.2.1 d_MO_find_9 (by decide) (fun h1 => ?_) (fun h1 => ?_)
    · rw [g_MO_find_4, if_pos h1] at hg
      subst hg
      exact kx _ _ ls hP hS (lv_sub hl [0, 1, 2] rfl)
    · refine lv_aload_n C.1 C.2.1 d_MO_find_12 rfl (lv_at hl 0 rfl) ?_
      refine xget C hP o_MO rfl c_MO (k := 40) (v := .ref (b + 36)) (by decide) wg_917 rfl d_MO_find_13 ?_
      refine lv_iload_n C.1 C.2.1 d_MO_find_16 rfl (lv_at hl 3 rfl) ?_
      refine xiald C hP om_36 rfl (v := (st 36 x3.toNatClampNeg 0)) (lpi_ix hx (lpi_c hx h1 hi.2) (by decide)) rfl d_MO_find_17 ?_
      refine lv_iload_n C.1 C.2.1 d_MO_find_18 rfl (lv_at hl 1 rfl) ?_
      refine lv_icmp_ne (tgt := 26) C.1 C.2.1 d_MO_find_19 (by decide) (fun h2 => ?_) (fun h2 => ?_)
      · refine lv_iload_n C.1 C.2.1 d_MO_find_26 rfl (lv_at hl 2 rfl) ?_
        refine lv_istore_n C.1 C.2.1 d_MO_find_27 rfl hl (by decide) rfl (fun ls hl => ?_)
        have hl : lv_has ls 4 [(2, .int c2), (0, .ref (b + 0)), (1, .int a1), (3, .int x3)] := hl
        refine lv_iinc (v := (x3 + 1)) C.1 C.2.1 d_MO_find_28 hl (k := 3) rfl rfl (by decide) rfl (fun ls hl => ?_)
        have hl : lv_has ls 4 [(3, .int (x3 + 1)), (2, .int c2), (0, .ref (b + 0)), (1, .int a1)] := hl
        refine lv_goto (tgt := 4) C.1 C.2.1 d_MO_find_31 (by decide) ?_
        rw [g_MO_find_4, if_neg h1, if_neg h2] at hg
        exact ih _ _ _ _ ls (lpi_nx hx (lpi_c hx h1 hi.2) (by decide)) hi (lv_sub hl [2, 3, 1, 0] rfl) hP hS hg
      · refine lv_iload_n C.1 C.2.1 d_MO_find_22 rfl (lv_at hl 3 rfl) ?_
        refine lv_goto (tgt := 27) C.1 C.2.1 d_MO_find_23 (by decide) ?_
        refine lv_istore_n C.1 C.2.1 d_MO_find_27 rfl hl (by decide) rfl (fun ls hl => ?_)
        have hl : lv_has ls 4 [(2, .int x3), (0, .ref (b + 0)), (1, .int a1), (3, .int x3)] := hl
        refine lv_iinc (v := (x3 + 1)) C.1 C.2.1 d_MO_find_28 hl (k := 3) rfl rfl (by decide) rfl (fun ls hl => ?_)
        have hl : lv_has ls 4 [(3, .int (x3 + 1)), (2, .int x3), (0, .ref (b + 0)), (1, .int a1)] := hl
        refine lv_goto (tgt := 4) C.1 C.2.1 d_MO_find_31 (by decide) ?_
        rw [g_MO_find_4, if_neg h1, if_pos h2] at hg
        exact ih _ _ _ _ ls (lpi_nx hx (lpi_c hx h1 hi.2) (by decide)) hi (lv_sub hl [2, 3, 1, 0] rfl) hP hS hg
def f_MO_find (st : XS) (a1 : Int32) : Int32 :=
  (g_MO_find_4 65 st a1 (-1) 0)
set_option maxRecDepth 100000 in
set_option maxHeartbeats 4000000 in
theorem k_MO_find (l : Launch) (D : va_G) (cA : Nat → ClassId) (b : Nat) (st : XS) (a1 : Int32) (hq : qok st) : xMi mw D cA b l y_MO_find (Cond.code y_MO_find b_MO_find 4 (some .int)) { frames := 0, cells := 0, slots := 0, locals := 0 } st [.ref (b + 0), .int a1] (f_MO_find st a1) st := by
  refine xMi_of rfl (by decide) (Nat.le_of_ble_eq_true rfl) ?_
  intro p e s m below meth c ls C hlk hr hml hl hP hS
  have hl : lv_has ls 4 [(0, .ref (b + 0)), (1, .int a1)] := hl
  refine lv_iconst (v := (-1)) C.1 C.2.1 d_MO_find_0 (by decide) ?_
  refine lv_istore_n C.1 C.2.1 d_MO_find_1 rfl hl (by decide) rfl (fun ls hl => ?_)
  have hl : lv_has ls 4 [(2, .int (-1)), (0, .ref (b + 0)), (1, .int a1)] := hl
  refine lv_iconst (v := 0) C.1 C.2.1 d_MO_find_2 (by decide) ?_
  refine lv_istore_n C.1 C.2.1 d_MO_find_3 rfl hl (by decide) rfl (fun ls hl => ?_)
  have hl : lv_has ls 4 [(3, .int 0), (2, .int (-1)), (0, .ref (b + 0)), (1, .int a1)] := hl
  refine w_MO_find_4 l D cA b a1 C hml st (fun H locs ls hP hS hl => ?_) 65 (-1) 0 _ _ ls lpi_st hq (lv_sub hl [2, 3, 1, 0] rfl) hP hS rfl
  have hl : lv_has ls 4 [(0, .ref (b + 0)), (1, .int a1), (2, .int (g_MO_find_4 65 st a1 (-1) 0))] := hl
  refine lv_iload_n C.1 C.2.1 d_MO_find_34 rfl (lv_at hl 2 rfl) ?_
  exact xri C hlk hr hP hS d_MO_find_35 ⟨by rw [f_MO_find], rfl⟩
