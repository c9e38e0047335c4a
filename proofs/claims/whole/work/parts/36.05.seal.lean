def f_MO_seal (st : XS) (a1 : Int32) : XS × Int32 :=
  if (f_MO_isAt (xu st 0 0 0 0) a1 1) = 0 then ((xu st 0 0 0 0), 0)
  else if (st 5 a1.toNatClampNeg 0) = 0 then ((xu st 0 0 0 0), 0)
  else ((xu (xu st 0 0 0 0) 2 a1.toNatClampNeg 0 2), 1)
set_option maxRecDepth 100000 in
set_option maxHeartbeats 4000000 in
theorem z_MO_seal {st : XS} {a1 : Int32} : bz (f_MO_seal st a1).2 = (f_MO_seal st a1).2 := by
  unfold f_MO_seal
  repeat' split
  all_goals first | with_reducible exact bz_0 | with_reducible exact bz_1 | with_reducible exact bz_bz _ | with_reducible exact z_MO_isAt
set_option maxRecDepth 100000 in
set_option maxHeartbeats 4000000 in
theorem fr_MO_seal {st : XS} {a1 : Int32} {a' k' i' : Nat} (h : (a', k') ∉ ([(0, 0)] : List (Nat × Nat))) (h2 : a' ∉ ([2] : List Nat)) : (f_MO_seal st a1).1 a' k' i' = st a' k' i' := by
  unfold f_MO_seal
  repeat' split
  all_goals (try dsimp only)
  all_goals (repeat (first | with_reducible rfl | rw [xu_f (fun e => h (by rw [e]; decide))] | rw [xu_a (fun e => h2 (by rw [e]; decide))]))
theorem p_MO_seal {st : XS} {a1 : Int32} (h : qok st) : qok (f_MO_seal st a1).1 := qok_of h (fr_MO_seal (by decide) (by decide))
set_option maxRecDepth 100000 in
set_option maxHeartbeats 4000000 in
theorem k_MO_seal (l : Launch) (D : va_G) (cA : Nat → ClassId) (b : Nat) (st : XS) (a1 : Int32) : xMi mw D cA b l y_MO_seal (Cond.code y_MO_seal b_MO_seal 2 (some .boolean)) { frames := 2, cells := 0, slots := 0, locals := 42 } st [.ref (b + 0), .int a1] (f_MO_seal st a1).2 (f_MO_seal st a1).1 := by
  refine xMi_of rfl (by decide) (Nat.le_of_ble_eq_true rfl) ?_
  intro p e s m below meth c ls C hlk hr hml hl hP hS
  have hl : lv_has ls 2 [(0, .ref (b + 0)), (1, .int a1)] := hl
  refine lv_aload_n C.1 C.2.1 d_MO_seal_0 rfl (lv_at hl 0 rfl) ?_
  refine lv_iconst (v := 0) C.1 C.2.1 d_MO_seal_1 (by decide) ?_
  refine xput mw_inj C hP hS o_MO rfl c_MO (k := 0) (x := 0) (by decide) wg_877 rfl rfl rfl rfl d_MO_seal_2 (fun H locs hP hS => ?_)
  refine lv_aload_n C.1 C.2.1 d_MO_seal_5 rfl (lv_at hl 0 rfl) ?_
  refine lv_iload_n C.1 C.2.1 d_MO_seal_6 rfl (lv_at hl 1 rfl) ?_
  refine lv_iconst (v := 1) C.1 C.2.1 d_MO_seal_7 (by decide) ?_
  refine xcVi (rest := []) C hml hl.1 (k_MO_isAt l D cA b (xu st 0 0 0 0) a1 1) q_MO_isAt rfl rfl wg_1083 wg_1085 ws_53 ⟨Nat.le_of_ble_eq_true rfl, Nat.le_of_ble_eq_true rfl⟩ hP hS o_MO rfl c_MO rfl (Nat.le_of_ble_eq_true rfl) d_MO_seal_8 rfl (fun H locs hP hS => ?_)
  refine lv_if_eq (tgt := 23) C.1 C.2.1 d_MO_seal_11 (by decide) (fun h1 => ?_) (fun h1 => ?_)
  · refine lv_iconst (v := 0) C.1 C.2.1 d_MO_seal_23 (by decide) ?_
    exact xrz C hlk hr bz_0 hP hS d_MO_seal_24 ⟨by rw [f_MO_seal, if_pos h1], by rw [f_MO_seal, if_pos h1]⟩
  · refine lv_aload_n C.1 C.2.1 d_MO_seal_14 rfl (lv_at hl 0 rfl) ?_
    refine xget C hP o_MO rfl c_MO (k := 8) (v := .ref (b + 5)) (by decide) wg_885 rfl d_MO_seal_15 ?_
    refine lv_iload_n C.1 C.2.1 d_MO_seal_18 rfl (lv_at hl 1 rfl) ?_
    refine xiald C hP om_5 rfl (v := (st 5 a1.toNatClampNeg 0)) (vm_isAt h1) (congrArg Value.int (xu_a (by decide))) d_MO_seal_19 ?_
    refine lv_if_ne (tgt := 25) C.1 C.2.1 d_MO_seal_20 (by decide) (fun h2 => ?_) (fun h2 => ?_)
    · refine lv_aload_n C.1 C.2.1 d_MO_seal_25 rfl (lv_at hl 0 rfl) ?_
      refine xget C hP o_MO rfl c_MO (k := 5) (v := .ref (b + 2)) (by decide) wg_882 rfl d_MO_seal_26 ?_
      refine lv_iload_n C.1 C.2.1 d_MO_seal_29 rfl (lv_at hl 1 rfl) ?_
      refine lv_iconst (v := 2) C.1 C.2.1 d_MO_seal_30 (by decide) ?_
      refine xiast mw_inj C hP hS om_2 rfl (vm_isAt h1) rfl d_MO_seal_31 (fun H locs hP hS => ?_)
      refine lv_iconst (v := 1) C.1 C.2.1 d_MO_seal_32 (by decide) ?_
      exact xrz C hlk hr bz_1 hP hS d_MO_seal_33 ⟨by rw [f_MO_seal, if_neg h1, if_neg h2], by rw [f_MO_seal, if_neg h1, if_neg h2]⟩
    · refine lv_iconst (v := 0) C.1 C.2.1 d_MO_seal_23 (by decide) ?_
      exact xrz C hlk hr bz_0 hP hS d_MO_seal_24 ⟨by rw [f_MO_seal, if_neg h1, if_pos h2], by rw [f_MO_seal, if_neg h1, if_pos h2]⟩
