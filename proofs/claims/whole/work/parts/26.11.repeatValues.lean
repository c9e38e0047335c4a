def g_BN_repeatValues_10 : Nat → XS → Int32 → Int32 → XS
  | 0, st, x1, x2 => st
  | n + 1, st, x1, x2 =>
    if (st 8 5 x1.toNatClampNeg) ≤ x2 then st
    else if (st 8 6 x1.toNatClampNeg) = 0 then (g_BN_repeatValues_10 n st x1 (x2 + 1))
    else if (bz (st 12 7 (20 * x1.toNatClampNeg + 4 * x2.toNatClampNeg))) = 0 then (g_BN_repeatValues_10 n st x1 (x2 + 1))
    else if ((st 0 8 0) - (st 12 8 (20 * x1.toNatClampNeg + 4 * x2.toNatClampNeg))) < 1000 then (g_BN_repeatValues_10 n st x1 (x2 + 1))
    else (g_BN_repeatValues_10 n (f_BN_sendValue st x1 x2) x1 (x2 + 1))
set_option maxRecDepth 100000 in
set_option maxHeartbeats 4000000 in
theorem w_BN_repeatValues_10 (l : Launch) (D : va_G) (cA : Nat → ClassId) (b : Nat) (x1 : Int32) (hx1 : vp_in x1 8) {p : Program} {e : Env} {s : State} {m : MethodId} {below : List Frame} {meth : Method} {c : Code} {Q : State → Prop} (C : xCx p s m ([.ref (b + 0)] : List Value).toArray c b_BN_repeatValues y_BN_repeatValues.cls D cA) (hml : c.maxLocals = 4) {stE : XS} (kx : ∀ (H1 : Heap) (locs1 : List Loc) (ls1 : Array Slot), xP cw D cA b stE H1 → va_S (xA cw b) s.heap H1 locs1 → lv_has ls1 4 [(0, .ref (b + 0)), (1, .int x1)] → W p l e { frames := 2, cells := 0, slots := 0, locals := 52 } s m ([.ref (b + 0)] : List Value).toArray below meth c H1 locs1 0 0 Q (F0 m 81 ls1 [])) : ∀ (n : Nat) (st : XS) (x2 : Int32) (H : Heap) (locs : List Loc) (ls : Array Slot), lpi 4 n x2 → pok st ∧ dok st → lv_has ls 4 [(0, .ref (b + 0)), (1, .int x1), (2, .int x2)] → xP cw D cA b st H → va_S (xA cw b) s.heap H locs → g_BN_repeatValues_10 n st x1 x2 = stE → W p l e { frames := 2, cells := 0, slots := 0, locals := 52 } s m ([.ref (b + 0)] : List Value).toArray below meth c H locs 0 0 Q (F0 m 10 ls []) := by
  intro n
  induction n with
  | zero =>
    intro st x2 H locs ls hx
    exact absurd hx (fun h => lpi_no h)
  | succ n ih =>
    intro st x2 H locs ls hx hi hl hP hS hg
    refine lv_iload_n C.1 C.2.1 d_BN_repeatValues_10 rfl (lv_at hl 2 rfl) ?_
    refine lv_aload_n C.1 C.2.1 d_BN_repeatValues_11 rfl (lv_at hl 0 rfl) ?_
    refine xget C hP o_BN rfl c_BN (k := 0) (v := .ref (b + 1)) (by decide) wg_378 rfl d_BN_repeatValues_12 ?_
    refine lv_iload_n C.1 C.2.1 d_BN_repeatValues_15 rfl (lv_at hl 1 rfl) ?_
    refine xaald C hP o_da rfl (E := R_DE) rfl (v := b + (73 + 20 * x1.toNatClampNeg)) hx1 rfl d_BN_repeatValues_16 ?_
    refine xgetN C hP (o_DE (xin_lt hx1)) rfl c_DE (k := 5) (v := .int (st 8 5 x1.toNatClampNeg)) (by decide) wn_291 rfl d_BN_repeatValues_17 ?_
    refine lv_icmp_ge (tgt := 81) C.1 C.2.1 d_BN_repeatValues_20 (by decide) (fun h1 => ?_) (fun h1 => ?_)
    · rw [g_BN_repeatValues_10, if_pos h1] at hg
      subst hg
      exact kx _ _ ls hP hS (lv_sub hl [0, 1] rfl)
    · refine lv_aload_n C.1 C.2.1 d_BN_repeatValues_23 rfl (lv_at hl 0 rfl) ?_
      refine xget C hP o_BN rfl c_BN (k := 0) (v := .ref (b + 1)) (by decide) wg_378 rfl d_BN_repeatValues_24 ?_
      refine lv_iload_n C.1 C.2.1 d_BN_repeatValues_27 rfl (lv_at hl 1 rfl) ?_
      refine xaald C hP o_da rfl (E := R_DE) rfl (v := b + (73 + 20 * x1.toNatClampNeg)) hx1 rfl d_BN_repeatValues_28 ?_
      refine xgetN C hP (o_DE (xin_lt hx1)) rfl c_DE (k := 0) (v := .ref (b + (74 + 20 * x1.toNatClampNeg))) (by decide) wn_281 rfl d_BN_repeatValues_29 ?_
      refine lv_iload_n C.1 C.2.1 d_BN_repeatValues_32 rfl (lv_at hl 2 rfl) ?_
      refine xaald C hP (o_ca (xin_lt hx1)) rfl (E := R_CH) rfl (v := b + (77 + (20 * x1.toNatClampNeg + 4 * x2.toNatClampNeg))) (lpi_ix hx (lpi_c hx h1 (hi.2 _ (xin_lt hx1))) (by decide)) rfl d_BN_repeatValues_33 ?_
      refine lv_astore_n C.1 C.2.1 d_BN_repeatValues_34 rfl hl (by decide) rfl (fun ls hl => ?_)
      have hl : lv_has ls 4 [(3, .ref (b + (77 + (20 * x1.toNatClampNeg + 4 * x2.toNatClampNeg)))), (0, .ref (b + 0)), (1, .int x1), (2, .int x2)] := hl
      refine lv_aload_n C.1 C.2.1 d_BN_repeatValues_35 rfl (lv_at hl 1 rfl) ?_
      refine xget C hP o_BN rfl c_BN (k := 0) (v := .ref (b + 1)) (by decide) wg_378 rfl d_BN_repeatValues_36 ?_
      refine lv_iload_n C.1 C.2.1 d_BN_repeatValues_39 rfl (lv_at hl 2 rfl) ?_
      refine xaald C hP o_da rfl (E := R_DE) rfl (v := b + (73 + 20 * x1.toNatClampNeg)) hx1 rfl d_BN_repeatValues_40 ?_
      refine xgetN C hP (o_DE (xin_lt hx1)) rfl c_DE (k := 6) (v := .int (st 8 6 x1.toNatClampNeg)) (by decide) wn_293 rfl d_BN_repeatValues_41 ?_
      refine lv_if_eq (tgt := 75) C.1 C.2.1 d_BN_repeatValues_44 (by decide) (fun h2 => ?_) (fun h2 => ?_)
      · refine lv_iinc (v := (x2 + 1)) C.1 C.2.1 d_BN_repeatValues_75 hl (k := 3) rfl rfl (by decide) rfl (fun ls hl => ?_)
        have hl : lv_has ls 4 [(2, .int (x2 + 1)), (3, .ref (b + (77 + (20 * x1.toNatClampNeg + 4 * x2.toNatClampNeg)))), (0, .ref (b + 0)), (1, .int x1)] := hl
        refine lv_goto (tgt := 10) C.1 C.2.1 d_BN_repeatValues_78 (by decide) ?_
        rw [g_BN_repeatValues_10, if_neg h1, if_pos h2] at hg
        exact ih _ _ _ _ ls (lpi_nx hx (lpi_c hx h1 (hi.2 _ (xin_lt hx1))) (by decide)) ⟨hi.1, hi.2⟩ (lv_sub hl [2, 3, 0] rfl) hP hS hg
      · refine lv_aload_n C.1 C.2.1 d_BN_repeatValues_47 rfl (lv_at hl 0 rfl) ?_
        refine xgetN C hP (o_CH (cix_of (xin_lt hx1) (xin_lt (lpi_ix hx (lpi_c hx h1 (hi.2 _ (xin_lt hx1))) (by decide))))) rfl c_CH (k := 7) (v := .int (bz (st 12 7 (20 * x1.toNatClampNeg + 4 * x2.toNatClampNeg)))) (by decide) wn_258 rfl d_BN_repeatValues_48 ?_
        refine lv_if_eq (tgt := 75) C.1 C.2.1 d_BN_repeatValues_51 (by decide) (fun h3 => ?_) (fun h3 => ?_)
        · refine lv_iinc (v := (x2 + 1)) C.1 C.2.1 d_BN_repeatValues_75 hl (k := 3) rfl rfl (by decide) rfl (fun ls hl => ?_)
          have hl : lv_has ls 4 [(2, .int (x2 + 1)), (3, .ref (b + (77 + (20 * x1.toNatClampNeg + 4 * x2.toNatClampNeg)))), (0, .ref (b + 0)), (1, .int x1)] := hl
          refine lv_goto (tgt := 10) C.1 C.2.1 d_BN_repeatValues_78 (by decide) ?_
          rw [g_BN_repeatValues_10, if_neg h1, if_neg h2, if_pos h3] at hg
          exact ih _ _ _ _ ls (lpi_nx hx (lpi_c hx h1 (hi.2 _ (xin_lt hx1))) (by decide)) ⟨hi.1, hi.2⟩ (lv_sub hl [2, 3, 0] rfl) hP hS hg
        · refine lv_aload_n C.1 C.2.1 d_BN_repeatValues_54 rfl (lv_at hl 1 rfl) ?_
          refine xget C hP o_BN rfl c_BN (k := 8) (v := .int (st 0 8 0)) (by decide) wg_386 rfl d_BN_repeatValues_55 ?_
          refine lv_aload_n C.1 C.2.1 d_BN_repeatValues_58 rfl (lv_at hl 0 rfl) ?_
          refine xgetN C hP (o_CH (cix_of (xin_lt hx1) (xin_lt (lpi_ix hx (lpi_c hx h1 (hi.2 _ (xin_lt hx1))) (by decide))))) rfl c_CH (k := 8) (v := .int (st 12 8 (20 * x1.toNatClampNeg + 4 * x2.toNatClampNeg))) (by decide) wn_260 rfl d_BN_repeatValues_59 ?_
          refine lv_isub C.1 C.2.1 d_BN_repeatValues_62 ?_
          refine lv_sipush (v := 1000) C.1 C.2.1 d_BN_repeatValues_63 (by decide) ?_
          refine lv_icmp_lt (tgt := 75) C.1 C.2.1 d_BN_repeatValues_66 (by decide) (fun h4 => ?_) (fun h4 => ?_)
          · refine lv_iinc (v := (x2 + 1)) C.1 C.2.1 d_BN_repeatValues_75 hl (k := 3) rfl rfl (by decide) rfl (fun ls hl => ?_)
            have hl : lv_has ls 4 [(2, .int (x2 + 1)), (3, .ref (b + (77 + (20 * x1.toNatClampNeg + 4 * x2.toNatClampNeg)))), (0, .ref (b + 0)), (1, .int x1)] := hl
            refine lv_goto (tgt := 10) C.1 C.2.1 d_BN_repeatValues_78 (by decide) ?_
            rw [g_BN_repeatValues_10, if_neg h1, if_neg h2, if_neg h3, if_pos h4] at hg
            exact ih _ _ _ _ ls (lpi_nx hx (lpi_c hx h1 (hi.2 _ (xin_lt hx1))) (by decide)) ⟨hi.1, hi.2⟩ (lv_sub hl [2, 3, 0] rfl) hP hS hg
          · refine lv_aload_n C.1 C.2.1 d_BN_repeatValues_69 rfl (lv_at hl 1 rfl) ?_
            refine lv_iload_n C.1 C.2.1 d_BN_repeatValues_70 rfl (lv_at hl 2 rfl) ?_
            refine lv_iload_n C.1 C.2.1 d_BN_repeatValues_71 rfl (lv_at hl 3 rfl) ?_
            refine xcVv (rest := []) C hml hl.1 (k_BN_sendValue l D cA b st x1 x2 hi.1 hx1 (lpi_ix hx (lpi_c hx h1 (hi.2 _ (xin_lt hx1))) (by decide))) q_BN_sendValue rfl rfl wg_499 wg_501 ws_11 ⟨Nat.le_of_ble_eq_true rfl, Nat.le_of_ble_eq_true rfl⟩ hP hS o_BN rfl c_BN rfl (Nat.le_of_ble_eq_true rfl) d_BN_repeatValues_72 rfl (fun H locs hP hS => ?_)
            refine lv_iinc (v := (x2 + 1)) C.1 C.2.1 d_BN_repeatValues_75 hl (k := 3) rfl rfl (by decide) rfl (fun ls hl => ?_)
            have hl : lv_has ls 4 [(2, .int (x2 + 1)), (3, .ref (b + (77 + (20 * x1.toNatClampNeg + 4 * x2.toNatClampNeg)))), (0, .ref (b + 0)), (1, .int x1)] := hl
            refine lv_goto (tgt := 10) C.1 C.2.1 d_BN_repeatValues_78 (by decide) ?_
            rw [g_BN_repeatValues_10, if_neg h1, if_neg h2, if_neg h3, if_neg h4] at hg
            exact ih _ _ _ _ ls (lpi_nx hx (lpi_c hx h1 (hi.2 _ (xin_lt hx1))) (by decide)) ⟨(p_BN_sendValue hi.1), (dok_of hi.2 (fun _ => fr_BN_sendValue (by decide) (by decide)))⟩ (lv_sub hl [2, 3, 0] rfl) hP hS hg
theorem fr_BN_repeatValues_10 {a' k' i' : Nat} (h : (a', k') ∉ ([(5, 1), (5, 2), (5, 3), (7, 0), (7, 1), (7, 2), (7, 3), (7, 4), (7, 5), (7, 6), (7, 7), (12, 8)] : List (Nat × Nat))) (h2 : a' ∉ ([] : List Nat)) : ∀ (n : Nat) (st : XS) (x1 : Int32) (x2 : Int32), (g_BN_repeatValues_10 n st x1 x2) a' k' i' = st a' k' i' := by
  intro n
  induction n with
  | zero => intro st x1 x2; rfl
  | succ n ih =>
    intro st x1 x2
    unfold g_BN_repeatValues_10
    repeat' split
    all_goals (try dsimp only)
    all_goals (repeat (first | with_reducible rfl | rw [xu_f (fun e => h (by rw [e]; decide))] | rw [fr_BN_sendValue (fun q => h ((by decide : ∀ z ∈ ([(5, 1), (5, 2), (5, 3), (7, 0), (7, 1), (7, 2), (7, 3), (7, 4), (7, 5), (7, 6), (7, 7), (12, 8)] : List (Nat × Nat)), z ∈ ([(5, 1), (5, 2), (5, 3), (7, 0), (7, 1), (7, 2), (7, 3), (7, 4), (7, 5), (7, 6), (7, 7), (12, 8)] : List (Nat × Nat))) _ q)) (fun q => h2 ((by decide : ∀ z ∈ ([] : List Nat), z ∈ ([] : List Nat)) _ q))] | rw [ih]))
theorem pg_BN_repeatValues_10 : ∀ (n : Nat) (st : XS) (x1 : Int32) (x2 : Int32), pok st → pok (g_BN_repeatValues_10 n st x1 x2) := by
  intro n
  induction n with
  | zero => intro st x1 x2 h; exact h
  | succ n ih =>
    intro st x1 x2 h
    unfold g_BN_repeatValues_10
    repeat' split
    all_goals (try dsimp only)
    all_goals (repeat (first | with_reducible refine ih _ _ _ ?_ | with_reducible assumption | with_reducible refine p_BN_sendValue ?_ | with_reducible refine pok_xu ?_ ?_ ?_ | with_reducible refine pok_x5 ?_ ?_ | decide))
def g_BN_repeatValues_2 : Nat → XS → Int32 → XS
  | 0, st, x1 => st
  | n + 1, st, x1 =>
    if 8 ≤ x1 then st
    else (g_BN_repeatValues_2 n (g_BN_repeatValues_10 5 st x1 0) (x1 + 1))
set_option maxRecDepth 100000 in
set_option maxHeartbeats 4000000 in
theorem w_BN_repeatValues_2 (l : Launch) (D : va_G) (cA : Nat → ClassId) (b : Nat) {p : Program} {e : Env} {s : State} {m : MethodId} {below : List Frame} {meth : Method} {c : Code} {Q : State → Prop} (C : xCx p s m ([.ref (b + 0)] : List Value).toArray c b_BN_repeatValues y_BN_repeatValues.cls D cA) (hml : c.maxLocals = 4) {stE : XS} (kx : ∀ (H1 : Heap) (locs1 : List Loc) (ls1 : Array Slot), xP cw D cA b stE H1 → va_S (xA cw b) s.heap H1 locs1 → lv_has ls1 4 [(0, .ref (b + 0))] → W p l e { frames := 2, cells := 0, slots := 0, locals := 52 } s m ([.ref (b + 0)] : List Value).toArray below meth c H1 locs1 0 0 Q (F0 m 87 ls1 [])) : ∀ (n : Nat) (st : XS) (x1 : Int32) (H : Heap) (locs : List Loc) (ls : Array Slot), lpi 8 n x1 → pok st ∧ dok st → lv_has ls 4 [(0, .ref (b + 0)), (1, .int x1)] → xP cw D cA b st H → va_S (xA cw b) s.heap H locs → g_BN_repeatValues_2 n st x1 = stE → W p l e { frames := 2, cells := 0, slots := 0, locals := 52 } s m ([.ref (b + 0)] : List Value).toArray below meth c H locs 0 0 Q (F0 m 2 ls []) := by
  intro n
  induction n with
  | zero =>
    intro st x1 H locs ls hx
    exact absurd hx (fun h => lpi_no h)
  | succ n ih =>
    intro st x1 H locs ls hx hi hl hP hS hg
    refine lv_iload_n C.1 C.2.1 d_BN_repeatValues_2 rfl (lv_at hl 1 rfl) ?_
    refine lv_bipush (v := 8) C.1 C.2.1 d_BN_repeatValues_3 (by decide) ?_
    refine lv_icmp_ge (tgt := 87) C.1 C.2.1 d_BN_repeatValues_5 (by decide) (fun h1 => ?_) (fun h1 => ?_)
    · rw [g_BN_repeatValues_2, if_pos h1] at hg
      subst hg
      exact kx _ _ ls hP hS (lv_sub hl [0] rfl)
    · refine lv_iconst (v := 0) C.1 C.2.1 d_BN_repeatValues_8 (by decide) ?_
      refine lv_istore_n C.1 C.2.1 d_BN_repeatValues_9 rfl hl (by decide) rfl (fun ls hl => ?_)
      have hl : lv_has ls 4 [(2, .int 0), (0, .ref (b + 0)), (1, .int x1)] := hl
      refine w_BN_repeatValues_10 l D cA b x1 (lpi_ix hx (lpi_c hx h1 i32_8) (by decide)) C hml  (fun H locs ls hP hS hl => ?_) 5 st 0 _ _ ls lpi_st hi (lv_sub hl [1, 2, 0] rfl) hP hS rfl
      have hl : lv_has ls 4 [(0, .ref (b + 0)), (1, .int x1)] := hl
      refine lv_iinc (v := (x1 + 1)) C.1 C.2.1 d_BN_repeatValues_81 hl (k := 1) rfl rfl (by decide) rfl (fun ls hl => ?_)
      have hl : lv_has ls 4 [(1, .int (x1 + 1)), (0, .ref (b + 0))] := hl
      refine lv_goto (tgt := 2) C.1 C.2.1 d_BN_repeatValues_84 (by decide) ?_
      rw [g_BN_repeatValues_2, if_neg h1] at hg
      exact ih _ _ _ _ ls (lpi_nx hx (lpi_c hx h1 i32_8) (by decide)) ⟨(pg_BN_repeatValues_10 _ _ _ _ hi.1), (dok_of hi.2 (fun _ => fr_BN_repeatValues_10 (by decide) (by decide) _ _ _ _))⟩ (lv_sub hl [1, 0] rfl) hP hS hg
theorem fr_BN_repeatValues_2 {a' k' i' : Nat} (h : (a', k') ∉ ([(5, 1), (5, 2), (5, 3), (7, 0), (7, 1), (7, 2), (7, 3), (7, 4), (7, 5), (7, 6), (7, 7), (12, 8)] : List (Nat × Nat))) (h2 : a' ∉ ([] : List Nat)) : ∀ (n : Nat) (st : XS) (x1 : Int32), (g_BN_repeatValues_2 n st x1) a' k' i' = st a' k' i' := by
  intro n
  induction n with
  | zero => intro st x1; rfl
  | succ n ih =>
    intro st x1
    unfold g_BN_repeatValues_2
    repeat' split
    all_goals (try dsimp only)
    all_goals (repeat (first | with_reducible rfl | rw [xu_f (fun e => h (by rw [e]; decide))] | rw [fr_BN_sendValue (fun q => h ((by decide : ∀ z ∈ ([(5, 1), (5, 2), (5, 3), (7, 0), (7, 1), (7, 2), (7, 3), (7, 4), (7, 5), (7, 6), (7, 7), (12, 8)] : List (Nat × Nat)), z ∈ ([(5, 1), (5, 2), (5, 3), (7, 0), (7, 1), (7, 2), (7, 3), (7, 4), (7, 5), (7, 6), (7, 7), (12, 8)] : List (Nat × Nat))) _ q)) (fun q => h2 ((by decide : ∀ z ∈ ([] : List Nat), z ∈ ([] : List Nat)) _ q))] | rw [fr_BN_repeatValues_10 (fun q => h ((by decide : ∀ z ∈ ([(5, 1), (5, 2), (5, 3), (7, 0), (7, 1), (7, 2), (7, 3), (7, 4), (7, 5), (7, 6), (7, 7), (12, 8)] : List (Nat × Nat)), z ∈ ([(5, 1), (5, 2), (5, 3), (7, 0), (7, 1), (7, 2), (7, 3), (7, 4), (7, 5), (7, 6), (7, 7), (12, 8)] : List (Nat × Nat))) _ q)) (fun q => h2 ((by decide : ∀ z ∈ ([] : List Nat), z ∈ ([] : List Nat)) _ q))] | rw [ih]))
theorem pg_BN_repeatValues_2 : ∀ (n : Nat) (st : XS) (x1 : Int32), pok st → pok (g_BN_repeatValues_2 n st x1) := by
  intro n
  induction n with
  | zero => intro st x1 h; exact h
  | succ n ih =>
    intro st x1 h
    unfold g_BN_repeatValues_2
    repeat' split
    all_goals (try dsimp only)
    all_goals (repeat (first | with_reducible refine ih _ _ ?_ | with_reducible assumption | with_reducible refine p_BN_sendValue ?_ | with_reducible refine pg_BN_repeatValues_10 _ _ _ _ ?_ | with_reducible refine pok_xu ?_ ?_ ?_ | with_reducible refine pok_x5 ?_ ?_ | decide))
def f_BN_repeatValues (st : XS) : XS :=
  (g_BN_repeatValues_2 9 st 0)
set_option maxRecDepth 100000 in
set_option maxHeartbeats 4000000 in
theorem fr_BN_repeatValues {st : XS} {a' k' i' : Nat} (h : (a', k') ∉ ([(5, 1), (5, 2), (5, 3), (7, 0), (7, 1), (7, 2), (7, 3), (7, 4), (7, 5), (7, 6), (7, 7), (12, 8)] : List (Nat × Nat))) (h2 : a' ∉ ([] : List Nat)) : (f_BN_repeatValues st) a' k' i' = st a' k' i' := by
  unfold f_BN_repeatValues
  repeat' split
  all_goals (try dsimp only)
  all_goals (repeat (first | with_reducible rfl | rw [xu_f (fun e => h (by rw [e]; decide))] | rw [fr_BN_sendValue (fun q => h ((by decide : ∀ z ∈ ([(5, 1), (5, 2), (5, 3), (7, 0), (7, 1), (7, 2), (7, 3), (7, 4), (7, 5), (7, 6), (7, 7), (12, 8)] : List (Nat × Nat)), z ∈ ([(5, 1), (5, 2), (5, 3), (7, 0), (7, 1), (7, 2), (7, 3), (7, 4), (7, 5), (7, 6), (7, 7), (12, 8)] : List (Nat × Nat))) _ q)) (fun q => h2 ((by decide : ∀ z ∈ ([] : List Nat), z ∈ ([] : List Nat)) _ q))] | rw [fr_BN_repeatValues_10 (fun q => h ((by decide : ∀ z ∈ ([(5, 1), (5, 2), (5, 3), (7, 0), (7, 1), (7, 2), (7, 3), (7, 4), (7, 5), (7, 6), (7, 7), (12, 8)] : List (Nat × Nat)), z ∈ ([(5, 1), (5, 2), (5, 3), (7, 0), (7, 1), (7, 2), (7, 3), (7, 4), (7, 5), (7, 6), (7, 7), (12, 8)] : List (Nat × Nat))) _ q)) (fun q => h2 ((by decide : ∀ z ∈ ([] : List Nat), z ∈ ([] : List Nat)) _ q))] | rw [fr_BN_repeatValues_2 (fun q => h ((by decide : ∀ z ∈ ([(5, 1), (5, 2), (5, 3), (7, 0), (7, 1), (7, 2), (7, 3), (7, 4), (7, 5), (7, 6), (7, 7), (12, 8)] : List (Nat × Nat)), z ∈ ([(5, 1), (5, 2), (5, 3), (7, 0), (7, 1), (7, 2), (7, 3), (7, 4), (7, 5), (7, 6), (7, 7), (12, 8)] : List (Nat × Nat))) _ q)) (fun q => h2 ((by decide : ∀ z ∈ ([] : List Nat), z ∈ ([] : List Nat)) _ q))]))
theorem p_BN_repeatValues {st : XS} (h : pok st) : pok (f_BN_repeatValues st) := by
  unfold f_BN_repeatValues
  repeat' split
  all_goals (try dsimp only)
  all_goals (repeat (first | with_reducible refine pg_BN_repeatValues_2 _ _ _ ?_ | with_reducible refine pg_BN_repeatValues_10 _ _ _ _ ?_ | with_reducible assumption | with_reducible refine p_BN_sendValue ?_ | with_reducible refine pok_xu ?_ ?_ ?_ | with_reducible refine pok_x5 ?_ ?_ | decide))
set_option maxRecDepth 100000 in
set_option maxHeartbeats 4000000 in
theorem k_BN_repeatValues (l : Launch) (D : va_G) (cA : Nat → ClassId) (b : Nat) (st : XS) (hp : pok st) (ho : dok st) : xMv cw D cA b l y_BN_repeatValues (Cond.code y_BN_repeatValues b_BN_repeatValues 4 none) { frames := 2, cells := 0, slots := 0, locals := 52 } st [.ref (b + 0)] (f_BN_repeatValues st) := by
  refine xMv_of rfl (by decide) (Nat.le_of_ble_eq_true rfl) ?_
  intro p e s m below meth c ls C hlk hr hml hl hP hS
  have hl : lv_has ls 4 [(0, .ref (b + 0))] := hl
  refine lv_iconst (v := 0) C.1 C.2.1 d_BN_repeatValues_0 (by decide) ?_
  refine lv_istore_n C.1 C.2.1 d_BN_repeatValues_1 rfl hl (by decide) rfl (fun ls hl => ?_)
  have hl : lv_has ls 4 [(1, .int 0), (0, .ref (b + 0))] := hl
  refine w_BN_repeatValues_2 l D cA b C hml  (fun H locs ls hP hS hl => ?_) 9 st 0 _ _ ls lpi_st ⟨hp, ho⟩ (lv_sub hl [1, 0] rfl) hP hS rfl
  have hl : lv_has ls 4 [(0, .ref (b + 0))] := hl
  exact xrv C hlk hr hP hS d_BN_repeatValues_87 (by rw [f_BN_repeatValues])
