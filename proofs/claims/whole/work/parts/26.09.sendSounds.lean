def f_BN_sendSounds (st : XS) (a1 : Int32) : XS :=
  (xu (f_BN_send st 3 a1 0 0) 8 8 a1.toNatClampNeg (st 0 8 0))
set_option maxRecDepth 100000 in
set_option maxHeartbeats 4000000 in
theorem fr_BN_sendSounds {st : XS} {a1 : Int32} {a' k' i' : Nat} (h : (a', k') ∉ ([(5, 1), (5, 2), (5, 3), (7, 0), (7, 1), (7, 2), (7, 3), (7, 4), (7, 5), (7, 6), (7, 7), (8, 8)] : List (Nat × Nat))) (h2 : a' ∉ ([] : List Nat)) : (f_BN_sendSounds st a1) a' k' i' = st a' k' i' := by
  unfold f_BN_sendSounds
  repeat' split
  all_goals (try dsimp only)
  all_goals (repeat (first | with_reducible rfl | rw [xu_f (fun e => h (by rw [e]; decide))] | rw [fr_BN_send (fun q => h ((by decide : ∀ z ∈ ([(5, 1), (5, 2), (5, 3), (7, 0), (7, 1), (7, 2), (7, 3), (7, 4), (7, 5), (7, 6), (7, 7)] : List (Nat × Nat)), z ∈ ([(5, 1), (5, 2), (5, 3), (7, 0), (7, 1), (7, 2), (7, 3), (7, 4), (7, 5), (7, 6), (7, 7), (8, 8)] : List (Nat × Nat))) _ q)) (fun q => h2 ((by decide : ∀ z ∈ ([] : List Nat), z ∈ ([] : List Nat)) _ q))]))
theorem p_BN_sendSounds {st : XS} {a1 : Int32} (h : pok st) : pok (f_BN_sendSounds st a1) := by
  unfold f_BN_sendSounds
  repeat' split
  all_goals (try dsimp only)
  all_goals (repeat (first | with_reducible assumption | with_reducible refine p_BN_send ?_ | with_reducible refine pok_xu ?_ ?_ ?_ | with_reducible refine pok_x5 ?_ ?_ | decide))
set_option maxRecDepth 100000 in
set_option maxHeartbeats 4000000 in
theorem k_BN_sendSounds (l : Launch) (D : va_G) (cA : Nat → ClassId) (b : Nat) (st : XS) (a1 : Int32) (hp : pok st) (hd1 : vp_in a1 8) : xMv cw D cA b l y_BN_sendSounds (Cond.code y_BN_sendSounds b_BN_sendSounds 2 none) { frames := 2, cells := 0, slots := 0, locals := 52 } st [.ref (b + 0), .int a1] (f_BN_sendSounds st a1) := by
  refine xMv_of rfl (by decide) (Nat.le_of_ble_eq_true rfl) ?_
  intro p e s m below meth c ls C hlk hr hml hl hP hS
  have hl : lv_has ls 2 [(0, .ref (b + 0)), (1, .int a1)] := hl
  refine lv_aload_n C.1 C.2.1 d_BN_sendSounds_0 rfl (lv_at hl 0 rfl) ?_
  refine lv_iconst (v := 3) C.1 C.2.1 d_BN_sendSounds_1 (by decide) ?_
  refine lv_iload_n C.1 C.2.1 d_BN_sendSounds_2 rfl (lv_at hl 1 rfl) ?_
  refine lv_iconst (v := 0) C.1 C.2.1 d_BN_sendSounds_3 (by decide) ?_
  refine lv_iconst (v := 0) C.1 C.2.1 d_BN_sendSounds_4 (by decide) ?_
  refine xcVv (rest := []) C hml hl.1 (k_BN_send l D cA b st 3 a1 0 0 hp hd1) q_BN_send rfl rfl wg_518 wg_520 ws_15 ⟨Nat.le_of_ble_eq_true rfl, Nat.le_of_ble_eq_true rfl⟩ hP hS o_BN rfl c_BN rfl (Nat.le_of_ble_eq_true rfl) d_BN_sendSounds_5 rfl (fun H locs hP hS => ?_)
  refine lv_aload_n C.1 C.2.1 d_BN_sendSounds_8 rfl (lv_at hl 0 rfl) ?_
  refine xget C hP o_BN rfl c_BN (k := 0) (v := .ref (b + 1)) (by decide) wg_378 rfl d_BN_sendSounds_9 ?_
  refine lv_iload_n C.1 C.2.1 d_BN_sendSounds_12 rfl (lv_at hl 1 rfl) ?_
  refine xaald C hP o_da rfl (E := R_DE) rfl (v := b + (73 + 20 * a1.toNatClampNeg)) hd1 rfl d_BN_sendSounds_13 ?_
  refine lv_aload_n C.1 C.2.1 d_BN_sendSounds_14 rfl (lv_at hl 0 rfl) ?_
  refine xget C hP o_BN rfl c_BN (k := 8) (v := .int (st 0 8 0)) (by decide) wg_386 (congrArg Value.int (fr_BN_send (by decide) (by decide))) d_BN_sendSounds_15 ?_
  refine xputN cw_inj C hP hS (o_DE (xin_lt hd1)) rfl c_DE (k := 8) (x := (st 0 8 0)) (by decide) wn_297 rfl rfl rfl rfl d_BN_sendSounds_18 (fun H locs hP hS => ?_)
  exact xrv C hlk hr hP hS d_BN_sendSounds_21 (by rw [f_BN_sendSounds])
