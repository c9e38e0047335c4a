def f_BN_move (st : XS) (a1 : Int32) (a2 : Int32) : XS × Int32 :=
  if (f_BN_isSealed st a1) = 0 then (st, 0)
  else if (f_BN_isBed a2) = 0 then (st, 0)
  else ((xu (xu st 8 3 a1.toNatClampNeg a2) 8 6 a1.toNatClampNeg 0), 1)
set_option maxRecDepth 100000 in
set_option maxHeartbeats 4000000 in
theorem z_BN_move {st : XS} {a1 : Int32} {a2 : Int32} : bz (f_BN_move st a1 a2).2 = (f_BN_move st a1 a2).2 := by
  unfold f_BN_move
  repeat' split
  all_goals first | with_reducible exact bz_0 | with_reducible exact bz_1 | with_reducible exact bz_bz _ | with_reducible exact z_BN_isBed | with_reducible exact z_BN_isSealed
set_option maxRecDepth 100000 in
set_option maxHeartbeats 4000000 in
theorem fr_BN_move {st : XS} {a1 : Int32} {a2 : Int32} {a' k' i' : Nat} (h : (a', k') ∉ ([(8, 3), (8, 6)] : List (Nat × Nat))) (h2 : a' ∉ ([] : List Nat)) : (f_BN_move st a1 a2).1 a' k' i' = st a' k' i' := by
  unfold f_BN_move
  repeat' split
  all_goals (try dsimp only)
  all_goals (repeat (first | with_reducible rfl | rw [xu_f (fun e => h (by rw [e]; decide))]))
theorem p_BN_move {st : XS} {a1 : Int32} {a2 : Int32} (h : pok st) : pok (f_BN_move st a1 a2).1 := pok_of h (fr_BN_move (by decide) (by decide)) (fun _ => fr_BN_move (by simp) (by decide))
set_option maxRecDepth 100000 in
set_option maxHeartbeats 4000000 in
theorem k_BN_move (l : Launch) (D : va_G) (cA : Nat → ClassId) (b : Nat) (st : XS) (a1 : Int32) (a2 : Int32) : xMi cw D cA b l y_BN_move (Cond.code y_BN_move b_BN_move 3 (some .boolean)) { frames := 2, cells := 0, slots := 0, locals := 41 } st [.ref (b + 0), .int a1, .int a2] (f_BN_move st a1 a2).2 (f_BN_move st a1 a2).1 := by
  refine xMi_of rfl (by decide) (Nat.le_of_ble_eq_true rfl) ?_
  intro p e s m below meth c ls C hlk hr hml hl hP hS
  have hl : lv_has ls 3 [(0, .ref (b + 0)), (1, .int a1), (2, .int a2)] := hl
  refine lv_aload_n C.1 C.2.1 d_BN_move_0 rfl (lv_at hl 0 rfl) ?_
  refine lv_iload_n C.1 C.2.1 d_BN_move_1 rfl (lv_at hl 1 rfl) ?_
  refine xcVi (rest := []) C hml hl.1 (k_BN_isSealed l D cA b st a1) q_BN_isSealed rfl rfl wg_467 wg_469 ws_6 ⟨Nat.le_of_ble_eq_true rfl, Nat.le_of_ble_eq_true rfl⟩ hP hS o_BN rfl c_BN rfl (Nat.le_of_ble_eq_true rfl) d_BN_move_2 rfl (fun H locs hP hS => ?_)
  refine lv_if_eq (tgt := 15) C.1 C.2.1 d_BN_move_5 (by decide) (fun h1 => ?_) (fun h1 => ?_)
  · refine lv_iconst (v := 0) C.1 C.2.1 d_BN_move_15 (by decide) ?_
    exact xrz C hlk hr bz_0 hP hS d_BN_move_16 ⟨by rw [f_BN_move, if_pos h1], by rw [f_BN_move, if_pos h1]⟩
  · refine lv_iload_n C.1 C.2.1 d_BN_move_8 rfl (lv_at hl 2 rfl) ?_
    refine xcSi (rest := []) C hml hl.1 (k_BN_isBed l D cA b st a2) q_BN_isBed rfl rfl wg_413 wg_414 ⟨Nat.le_of_ble_eq_true rfl, Nat.le_of_ble_eq_true rfl⟩ hP hS rfl (Nat.le_of_ble_eq_true rfl) d_BN_move_9 rfl (fun H locs hP hS => ?_)
    refine lv_if_ne (tgt := 17) C.1 C.2.1 d_BN_move_12 (by decide) (fun h2 => ?_) (fun h2 => ?_)
    · refine lv_aload_n C.1 C.2.1 d_BN_move_17 rfl (lv_at hl 0 rfl) ?_
      refine xget C hP o_BN rfl c_BN (k := 0) (v := .ref (b + 1)) (by decide) wg_378 rfl d_BN_move_18 ?_
      refine lv_iload_n C.1 C.2.1 d_BN_move_21 rfl (lv_at hl 1 rfl) ?_
      refine xaald C hP o_da rfl (E := R_DE) rfl (v := b + (73 + 20 * a1.toNatClampNeg)) (vd_isSealed h1) rfl d_BN_move_22 ?_
      refine lv_iload_n C.1 C.2.1 d_BN_move_23 rfl (lv_at hl 2 rfl) ?_
      refine xputN cw_inj C hP hS (o_DE (xin_lt (vd_isSealed h1))) rfl c_DE (k := 3) (x := a2) (by decide) wn_287 rfl rfl rfl rfl d_BN_move_24 (fun H locs hP hS => ?_)
      refine lv_aload_n C.1 C.2.1 d_BN_move_27 rfl (lv_at hl 0 rfl) ?_
      refine xget C hP o_BN rfl c_BN (k := 0) (v := .ref (b + 1)) (by decide) wg_378 rfl d_BN_move_28 ?_
      refine lv_iload_n C.1 C.2.1 d_BN_move_31 rfl (lv_at hl 1 rfl) ?_
      refine xaald C hP o_da rfl (E := R_DE) rfl (v := b + (73 + 20 * a1.toNatClampNeg)) (vd_isSealed h1) rfl d_BN_move_32 ?_
      refine lv_iconst (v := 0) C.1 C.2.1 d_BN_move_33 (by decide) ?_
      refine xputN cw_inj C hP hS (o_DE (xin_lt (vd_isSealed h1))) rfl c_DE (k := 6) (x := 0) (by decide) wn_293 rfl rfl rfl rfl d_BN_move_34 (fun H locs hP hS => ?_)
      refine lv_iconst (v := 1) C.1 C.2.1 d_BN_move_37 (by decide) ?_
      exact xrz C hlk hr bz_1 hP hS d_BN_move_38 ⟨by rw [f_BN_move, if_neg h1, if_neg h2], by rw [f_BN_move, if_neg h1, if_neg h2]⟩
    · refine lv_iconst (v := 0) C.1 C.2.1 d_BN_move_15 (by decide) ?_
      exact xrz C hlk hr bz_0 hP hS d_BN_move_16 ⟨by rw [f_BN_move, if_neg h1, if_pos h2], by rw [f_BN_move, if_neg h1, if_pos h2]⟩
