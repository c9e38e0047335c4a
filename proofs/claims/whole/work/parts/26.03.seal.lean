def f_BN_seal (st : XS) (a1 : Int32) : XS × Int32 :=
  if (f_BN_isOpen st a1) = 0 then (st, 0)
  else if (st 8 5 a1.toNatClampNeg) = 0 then (st, 0)
  else ((xu st 8 2 a1.toNatClampNeg 2), 1)
set_option maxRecDepth 100000 in
set_option maxHeartbeats 4000000 in
theorem z_BN_seal {st : XS} {a1 : Int32} : bz (f_BN_seal st a1).2 = (f_BN_seal st a1).2 := by
  unfold f_BN_seal
  repeat' split
  all_goals first | with_reducible exact bz_0 | with_reducible exact bz_1 | with_reducible exact bz_bz _ | with_reducible exact z_BN_isOpen
set_option maxRecDepth 100000 in
set_option maxHeartbeats 4000000 in
theorem fr_BN_seal {st : XS} {a1 : Int32} {a' k' i' : Nat} (h : (a', k') ∉ ([(8, 2)] : List (Nat × Nat))) (h2 : a' ∉ ([] : List Nat)) : (f_BN_seal st a1).1 a' k' i' = st a' k' i' := by
  unfold f_BN_seal
  repeat' split
  all_goals (try dsimp only)
  all_goals (repeat (first | with_reducible rfl | rw [xu_f (fun e => h (by rw [e]; decide))]))
theorem p_BN_seal {st : XS} {a1 : Int32} (h : pok st) : pok (f_BN_seal st a1).1 := pok_of h (fr_BN_seal (by decide) (by decide)) (fun _ => fr_BN_seal (by simp) (by decide))
set_option maxRecDepth 100000 in
set_option maxHeartbeats 4000000 in
theorem k_BN_seal (l : Launch) (D : va_G) (cA : Nat → ClassId) (b : Nat) (st : XS) (a1 : Int32) : xMi cw D cA b l y_BN_seal (Cond.code y_BN_seal b_BN_seal 2 (some .boolean)) { frames := 2, cells := 0, slots := 0, locals := 41 } st [.ref (b + 0), .int a1] (f_BN_seal st a1).2 (f_BN_seal st a1).1 := by
  refine xMi_of rfl (by decide) (Nat.le_of_ble_eq_true rfl) ?_
  intro p e s m below meth c ls C hlk hr hml hl hP hS
  have hl : lv_has ls 2 [(0, .ref (b + 0)), (1, .int a1)] := hl
  refine lv_aload_n C.1 C.2.1 d_BN_seal_0 rfl (lv_at hl 0 rfl) ?_
  refine lv_iload_n C.1 C.2.1 d_BN_seal_1 rfl (lv_at hl 1 rfl) ?_
  refine xcVi (rest := []) C hml hl.1 (k_BN_isOpen l D cA b st a1) q_BN_isOpen rfl rfl wg_424 wg_426 ws_1 ⟨Nat.le_of_ble_eq_true rfl, Nat.le_of_ble_eq_true rfl⟩ hP hS o_BN rfl c_BN rfl (Nat.le_of_ble_eq_true rfl) d_BN_seal_2 rfl (fun H locs hP hS => ?_)
  refine lv_if_eq (tgt := 20) C.1 C.2.1 d_BN_seal_5 (by decide) (fun h1 => ?_) (fun h1 => ?_)
  · refine lv_iconst (v := 0) C.1 C.2.1 d_BN_seal_20 (by decide) ?_
    exact xrz C hlk hr bz_0 hP hS d_BN_seal_21 ⟨by rw [f_BN_seal, if_pos h1], by rw [f_BN_seal, if_pos h1]⟩
  · refine lv_aload_n C.1 C.2.1 d_BN_seal_8 rfl (lv_at hl 0 rfl) ?_
    refine xget C hP o_BN rfl c_BN (k := 0) (v := .ref (b + 1)) (by decide) wg_378 rfl d_BN_seal_9 ?_
    refine lv_iload_n C.1 C.2.1 d_BN_seal_12 rfl (lv_at hl 1 rfl) ?_
    refine xaald C hP o_da rfl (E := R_DE) rfl (v := b + (73 + 20 * a1.toNatClampNeg)) (vd_isOpen h1) rfl d_BN_seal_13 ?_
    refine xgetN C hP (o_DE (xin_lt (vd_isOpen h1))) rfl c_DE (k := 5) (v := .int (st 8 5 a1.toNatClampNeg)) (by decide) wn_291 rfl d_BN_seal_14 ?_
    refine lv_if_ne (tgt := 22) C.1 C.2.1 d_BN_seal_17 (by decide) (fun h2 => ?_) (fun h2 => ?_)
    · refine lv_aload_n C.1 C.2.1 d_BN_seal_22 rfl (lv_at hl 0 rfl) ?_
      refine xget C hP o_BN rfl c_BN (k := 0) (v := .ref (b + 1)) (by decide) wg_378 rfl d_BN_seal_23 ?_
      refine lv_iload_n C.1 C.2.1 d_BN_seal_26 rfl (lv_at hl 1 rfl) ?_
      refine xaald C hP o_da rfl (E := R_DE) rfl (v := b + (73 + 20 * a1.toNatClampNeg)) (vd_isOpen h1) rfl d_BN_seal_27 ?_
      refine lv_iconst (v := 2) C.1 C.2.1 d_BN_seal_28 (by decide) ?_
      refine xputN cw_inj C hP hS (o_DE (xin_lt (vd_isOpen h1))) rfl c_DE (k := 2) (x := 2) (by decide) wn_285 rfl rfl rfl rfl d_BN_seal_29 (fun H locs hP hS => ?_)
      refine lv_iconst (v := 1) C.1 C.2.1 d_BN_seal_32 (by decide) ?_
      exact xrz C hlk hr bz_1 hP hS d_BN_seal_33 ⟨by rw [f_BN_seal, if_neg h1, if_neg h2], by rw [f_BN_seal, if_neg h1, if_neg h2]⟩
    · refine lv_iconst (v := 0) C.1 C.2.1 d_BN_seal_20 (by decide) ?_
      exact xrz C hlk hr bz_0 hP hS d_BN_seal_21 ⟨by rw [f_BN_seal, if_neg h1, if_pos h2], by rw [f_BN_seal, if_neg h1, if_pos h2]⟩
