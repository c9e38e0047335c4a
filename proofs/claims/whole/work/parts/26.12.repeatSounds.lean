def g_BN_repeatSounds_2 : Nat → XS → Int32 → XS
  | 0, st, x1 => st
  | n + 1, st, x1 =>
    if 8 ≤ x1 then st
    else if (f_DE_soundsAtStation st x1.toNatClampNeg) = 0 then (g_BN_repeatSounds_2 n st (x1 + 1))
    else if ((st 0 8 0) - (st 8 8 x1.toNatClampNeg)) < 1000 then (g_BN_repeatSounds_2 n st (x1 + 1))
    else (g_BN_repeatSounds_2 n (f_BN_sendSounds st x1) (x1 + 1))
set_option maxRecDepth 100000 in
set_option maxHeartbeats 4000000 in
theorem w_BN_repeatSounds_2 (l : Launch) (D : va_G) (cA : Nat → ClassId) (b : Nat) {p : Program} {e : Env} {s : State} {m : MethodId} {below : List Frame} {meth : Method} {c : Code} {Q : State → Prop} (C : xCx p s m ([.ref (b + 0)] : List Value).toArray c b_BN_repeatSounds y_BN_repeatSounds.cls D cA) (hml : c.maxLocals = 2) {stE : XS} (kx : ∀ (H1 : Heap) (locs1 : List Loc) (ls1 : Array Slot), xP cw D cA b stE H1 → va_S (xA cw b) s.heap H1 locs1 → lv_has ls1 2 [(0, .ref (b + 0))] → W p l e { frames := 3, cells := 0, slots := 0, locals := 73 } s m ([.ref (b + 0)] : List Value).toArray below meth c H1 locs1 0 0 Q (F0 m 51 ls1 [])) : ∀ (n : Nat) (st : XS) (x1 : Int32) (H : Heap) (locs : List Loc) (ls : Array Slot), lpi 8 n x1 → pok st ∧ dok st → lv_has ls 2 [(0, .ref (b + 0)), (1, .int x1)] → xP cw D cA b st H → va_S (xA cw b) s.heap H locs → g_BN_repeatSounds_2 n st x1 = stE → W p l e { frames := 3, cells := 0, slots := 0, locals := 73 } s m ([.ref (b + 0)] : List Value).toArray below meth c H locs 0 0 Q (F0 m 2 ls []) := by
  intro n
  induction n with
  | zero =>
    intro st x1 H locs ls hx
    exact absurd hx (fun h => lpi_no h)
  | succ n ih =>
    intro st x1 H locs ls hx hi hl hP hS hg
    refine lv_iload_n C.1 C.2.1 d_BN_repeatSounds_2 rfl (lv_at hl 1 rfl) ?_
    refine lv_bipush (v := 8) C.1 C.2.1 d_BN_repeatSounds_3 (by decide) ?_
    refine lv_icmp_ge (tgt := 51) C.1 C.2.1 d_BN_repeatSounds_5 (by decide) (fun h1 => ?_) (fun h1 => ?_)
    · rw [g_BN_repeatSounds_2, if_pos h1] at hg
      subst hg
      exact kx _ _ ls hP hS (lv_sub hl [0] rfl)
    · refine lv_aload_n C.1 C.2.1 d_BN_repeatSounds_8 rfl (lv_at hl 0 rfl) ?_
      refine xget C hP o_BN rfl c_BN (k := 0) (v := .ref (b + 1)) (by decide) wg_378 rfl d_BN_repeatSounds_9 ?_
      refine lv_iload_n C.1 C.2.1 d_BN_repeatSounds_12 rfl (lv_at hl 1 rfl) ?_
      refine xaald C hP o_da rfl (E := R_DE) rfl (v := b + (73 + 20 * x1.toNatClampNeg)) (lpi_ix hx (lpi_c hx h1 i32_8) (by decide)) rfl d_BN_repeatSounds_13 ?_
      refine xcVNi (rest := []) C hml hl.1 (k_DE_soundsAtStation l D cA b st x1.toNatClampNeg (xin_lt (lpi_ix hx (lpi_c hx h1 i32_8) (by decide))) (hi.2 _ (xin_lt (lpi_ix hx (lpi_c hx h1 i32_8) (by decide))))) q_DE_soundsAtStation rfl rfl wn_633 wg_635 ws_35 ⟨Nat.le_of_ble_eq_true rfl, Nat.le_of_ble_eq_true rfl⟩ hP hS (o_DE (xin_lt (lpi_ix hx (lpi_c hx h1 i32_8) (by decide)))) rfl c_DE rfl (Nat.le_of_ble_eq_true rfl) d_BN_repeatSounds_14 rfl (fun H locs hP hS => ?_)
      refine lv_if_eq (tgt := 45) C.1 C.2.1 d_BN_repeatSounds_17 (by decide) (fun h2 => ?_) (fun h2 => ?_)
      · refine lv_iinc (v := (x1 + 1)) C.1 C.2.1 d_BN_repeatSounds_45 hl (k := 1) rfl rfl (by decide) rfl (fun ls hl => ?_)
        have hl : lv_has ls 2 [(1, .int (x1 + 1)), (0, .ref (b + 0))] := hl
        refine lv_goto (tgt := 2) C.1 C.2.1 d_BN_repeatSounds_48 (by decide) ?_
        rw [g_BN_repeatSounds_2, if_neg h1, if_pos h2] at hg
        exact ih _ _ _ _ ls (lpi_nx hx (lpi_c hx h1 i32_8) (by decide)) ⟨hi.1, hi.2⟩ (lv_sub hl [1, 0] rfl) hP hS hg
      · refine lv_aload_n C.1 C.2.1 d_BN_repeatSounds_20 rfl (lv_at hl 0 rfl) ?_
        refine xget C hP o_BN rfl c_BN (k := 8) (v := .int (st 0 8 0)) (by decide) wg_386 rfl d_BN_repeatSounds_21 ?_
        refine lv_aload_n C.1 C.2.1 d_BN_repeatSounds_24 rfl (lv_at hl 0 rfl) ?_
        refine xget C hP o_BN rfl c_BN (k := 0) (v := .ref (b + 1)) (by decide) wg_378 rfl d_BN_repeatSounds_25 ?_
        refine lv_iload_n C.1 C.2.1 d_BN_repeatSounds_28 rfl (lv_at hl 1 rfl) ?_
        refine xaald C hP o_da rfl (E := R_DE) rfl (v := b + (73 + 20 * x1.toNatClampNeg)) (lpi_ix hx (lpi_c hx h1 i32_8) (by decide)) rfl d_BN_repeatSounds_29 ?_
        refine xgetN C hP (o_DE (xin_lt (lpi_ix hx (lpi_c hx h1 i32_8) (by decide)))) rfl c_DE (k := 8) (v := .int (st 8 8 x1.toNatClampNeg)) (by decide) wn_297 rfl d_BN_repeatSounds_30 ?_
        refine lv_isub C.1 C.2.1 d_BN_repeatSounds_33 ?_
        refine lv_sipush (v := 1000) C.1 C.2.1 d_BN_repeatSounds_34 (by decide) ?_
        refine lv_icmp_lt (tgt := 45) C.1 C.2.1 d_BN_repeatSounds_37 (by decide) (fun h3 => ?_) (fun h3 => ?_)
        · refine lv_iinc (v := (x1 + 1)) C.1 C.2.1 d_BN_repeatSounds_45 hl (k := 1) rfl rfl (by decide) rfl (fun ls hl => ?_)
          have hl : lv_has ls 2 [(1, .int (x1 + 1)), (0, .ref (b + 0))] := hl
          refine lv_goto (tgt := 2) C.1 C.2.1 d_BN_repeatSounds_48 (by decide) ?_
          rw [g_BN_repeatSounds_2, if_neg h1, if_neg h2, if_pos h3] at hg
          exact ih _ _ _ _ ls (lpi_nx hx (lpi_c hx h1 i32_8) (by decide)) ⟨hi.1, hi.2⟩ (lv_sub hl [1, 0] rfl) hP hS hg
        · refine lv_aload_n C.1 C.2.1 d_BN_repeatSounds_40 rfl (lv_at hl 0 rfl) ?_
          refine lv_iload_n C.1 C.2.1 d_BN_repeatSounds_41 rfl (lv_at hl 1 rfl) ?_
          refine xcVv (rest := []) C hml hl.1 (k_BN_sendSounds l D cA b st x1 hi.1 (lpi_ix hx (lpi_c hx h1 i32_8) (by decide))) q_BN_sendSounds rfl rfl wg_570 wg_572 ws_27 ⟨Nat.le_of_ble_eq_true rfl, Nat.le_of_ble_eq_true rfl⟩ hP hS o_BN rfl c_BN rfl (Nat.le_of_ble_eq_true rfl) d_BN_repeatSounds_42 rfl (fun H locs hP hS => ?_)
          refine lv_iinc (v := (x1 + 1)) C.1 C.2.1 d_BN_repeatSounds_45 hl (k := 1) rfl rfl (by decide) rfl (fun ls hl => ?_)
          have hl : lv_has ls 2 [(1, .int (x1 + 1)), (0, .ref (b + 0))] := hl
          refine lv_goto (tgt := 2) C.1 C.2.1 d_BN_repeatSounds_48 (by decide) ?_
          rw [g_BN_repeatSounds_2, if_neg h1, if_neg h2, if_neg h3] at hg
          exact ih _ _ _ _ ls (lpi_nx hx (lpi_c hx h1 i32_8) (by decide)) ⟨(p_BN_sendSounds hi.1), (dok_of hi.2 (fun _ => fr_BN_sendSounds (by decide) (by decide)))⟩ (lv_sub hl [1, 0] rfl) hP hS hg
theorem fr_BN_repeatSounds_2 {a' k' i' : Nat} (h : (a', k') ∉ ([(5, 1), (5, 2), (5, 3), (7, 0), (7, 1), (7, 2), (7, 3), (7, 4), (7, 5), (7, 6), (7, 7), (8, 8)] : List (Nat × Nat))) (h2 : a' ∉ ([] : List Nat)) : ∀ (n : Nat) (st : XS) (x1 : Int32), (g_BN_repeatSounds_2 n st x1) a' k' i' = st a' k' i' := by
  intro n
  induction n with
  | zero => intro st x1; rfl
  | succ n ih =>
    intro st x1
    unfold g_BN_repeatSounds_2
    repeat' split
    all_goals (try dsimp only)
    all_goals (repeat (first | with_reducible rfl | rw [xu_f (fun e => h (by rw [e]; decide))] | rw [fr_BN_sendSounds (fun q => h ((by decide : ∀ z ∈ ([(5, 1), (5, 2), (5, 3), (7, 0), (7, 1), (7, 2), (7, 3), (7, 4), (7, 5), (7, 6), (7, 7), (8, 8)] : List (Nat × Nat)), z ∈ ([(5, 1), (5, 2), (5, 3), (7, 0), (7, 1), (7, 2), (7, 3), (7, 4), (7, 5), (7, 6), (7, 7), (8, 8)] : List (Nat × Nat))) _ q)) (fun q => h2 ((by decide : ∀ z ∈ ([] : List Nat), z ∈ ([] : List Nat)) _ q))] | rw [ih]))
theorem pg_BN_repeatSounds_2 : ∀ (n : Nat) (st : XS) (x1 : Int32), pok st → pok (g_BN_repeatSounds_2 n st x1) := by
  intro n
  induction n with
  | zero => intro st x1 h; exact h
  | succ n ih =>
    intro st x1 h
    unfold g_BN_repeatSounds_2
    repeat' split
    all_goals (try dsimp only)
    all_goals (repeat (first | with_reducible refine ih _ _ ?_ | with_reducible assumption | with_reducible refine p_BN_sendSounds ?_ | with_reducible refine pok_xu ?_ ?_ ?_ | with_reducible refine pok_x5 ?_ ?_ | decide))
def f_BN_repeatSounds (st : XS) : XS :=
  (g_BN_repeatSounds_2 9 st 0)
set_option maxRecDepth 100000 in
set_option maxHeartbeats 4000000 in
theorem fr_BN_repeatSounds {st : XS} {a' k' i' : Nat} (h : (a', k') ∉ ([(5, 1), (5, 2), (5, 3), (7, 0), (7, 1), (7, 2), (7, 3), (7, 4), (7, 5), (7, 6), (7, 7), (8, 8)] : List (Nat × Nat))) (h2 : a' ∉ ([] : List Nat)) : (f_BN_repeatSounds st) a' k' i' = st a' k' i' := by
  unfold f_BN_repeatSounds
  repeat' split
  all_goals (try dsimp only)
  all_goals (repeat (first | with_reducible rfl | rw [xu_f (fun e => h (by rw [e]; decide))] | rw [fr_BN_sendSounds (fun q => h ((by decide : ∀ z ∈ ([(5, 1), (5, 2), (5, 3), (7, 0), (7, 1), (7, 2), (7, 3), (7, 4), (7, 5), (7, 6), (7, 7), (8, 8)] : List (Nat × Nat)), z ∈ ([(5, 1), (5, 2), (5, 3), (7, 0), (7, 1), (7, 2), (7, 3), (7, 4), (7, 5), (7, 6), (7, 7), (8, 8)] : List (Nat × Nat))) _ q)) (fun q => h2 ((by decide : ∀ z ∈ ([] : List Nat), z ∈ ([] : List Nat)) _ q))] | rw [fr_BN_repeatSounds_2 (fun q => h ((by decide : ∀ z ∈ ([(5, 1), (5, 2), (5, 3), (7, 0), (7, 1), (7, 2), (7, 3), (7, 4), (7, 5), (7, 6), (7, 7), (8, 8)] : List (Nat × Nat)), z ∈ ([(5, 1), (5, 2), (5, 3), (7, 0), (7, 1), (7, 2), (7, 3), (7, 4), (7, 5), (7, 6), (7, 7), (8, 8)] : List (Nat × Nat))) _ q)) (fun q => h2 ((by decide : ∀ z ∈ ([] : List Nat), z ∈ ([] : List Nat)) _ q))]))
theorem p_BN_repeatSounds {st : XS} (h : pok st) : pok (f_BN_repeatSounds st) := by
  unfold f_BN_repeatSounds
  repeat' split
  all_goals (try dsimp only)
  all_goals (repeat (first | with_reducible refine pg_BN_repeatSounds_2 _ _ _ ?_ | with_reducible assumption | with_reducible refine p_BN_sendSounds ?_ | with_reducible refine pok_xu ?_ ?_ ?_ | with_reducible refine pok_x5 ?_ ?_ | decide))
set_option maxRecDepth 100000 in
set_option maxHeartbeats 4000000 in
theorem k_BN_repeatSounds (l : Launch) (D : va_G) (cA : Nat → ClassId) (b : Nat) (st : XS) (hp : pok st) (ho : dok st) : xMv cw D cA b l y_BN_repeatSounds (Cond.code y_BN_repeatSounds b_BN_repeatSounds 2 none) { frames := 3, cells := 0, slots := 0, locals := 73 } st [.ref (b + 0)] (f_BN_repeatSounds st) := by
  refine xMv_of rfl (by decide) (Nat.le_of_ble_eq_true rfl) ?_
  intro p e s m below meth c ls C hlk hr hml hl hP hS
  have hl : lv_has ls 2 [(0, .ref (b + 0))] := hl
  refine lv_iconst (v := 0) C.1 C.2.1 d_BN_repeatSounds_0 (by decide) ?_
  refine lv_istore_n C.1 C.2.1 d_BN_repeatSounds_1 rfl hl (by decide) rfl (fun ls hl => ?_)
  have hl : lv_has ls 2 [(1, .int 0), (0, .ref (b + 0))] := hl
  refine w_BN_repeatSounds_2 l D cA b C hml  (fun H locs ls hP hS hl => ?_) 9 st 0 _ _ ls lpi_st ⟨hp, ho⟩ (lv_sub hl [1, 0] rfl) hP hS rfl
  have hl : lv_has ls 2 [(0, .ref (b + 0))] := hl
  exact xrv C hlk hr hP hS d_BN_repeatSounds_51 (by rw [f_BN_repeatSounds])
