def f_BN_setPoint (st : XS) (a1 : Int32) (a2 : Int32) (a3 : Int32) (a4 : Int32) : XS × Int32 :=
  if (f_BN_isOpen st a1) = 0 then (st, 0)
  else if (f_BN_isRange a2 a3 a4) = 0 then (st, 0)
  else ((f_SE_describe st a1.toNatClampNeg a2 a3 a4), 1)
set_option maxRecDepth 100000 in
set_option maxHeartbeats 4000000 in
theorem z_BN_setPoint {st : XS} {a1 : Int32} {a2 : Int32} {a3 : Int32} {a4 : Int32} : bz (f_BN_setPoint st a1 a2 a3 a4).2 = (f_BN_setPoint st a1 a2 a3 a4).2 := by
  unfold f_BN_setPoint
  repeat' split
  all_goals first | with_reducible exact bz_0 | with_reducible exact bz_1 | with_reducible exact bz_bz _ | with_reducible exact z_BN_isOpen | with_reducible exact z_BN_isRange
set_option maxRecDepth 100000 in
set_option maxHeartbeats 4000000 in
theorem fr_BN_setPoint {st : XS} {a1 : Int32} {a2 : Int32} {a3 : Int32} {a4 : Int32} {a' k' i' : Nat} (h : (a', k') ∉ ([(10, 1), (10, 2), (11, 0), (11, 1), (11, 2)] : List (Nat × Nat))) (h2 : a' ∉ ([] : List Nat)) : (f_BN_setPoint st a1 a2 a3 a4).1 a' k' i' = st a' k' i' := by
  unfold f_BN_setPoint
  repeat' split
  all_goals (try dsimp only)
  all_goals (repeat (first | with_reducible rfl | rw [xu_f (fun e => h (by rw [e]; decide))] | rw [fr_SE_describe (fun q => h ((by decide : ∀ z ∈ ([(10, 1), (10, 2), (11, 0), (11, 1), (11, 2)] : List (Nat × Nat)), z ∈ ([(10, 1), (10, 2), (11, 0), (11, 1), (11, 2)] : List (Nat × Nat))) _ q)) (fun q => h2 ((by decide : ∀ z ∈ ([] : List Nat), z ∈ ([] : List Nat)) _ q))]))
theorem p_BN_setPoint {st : XS} {a1 : Int32} {a2 : Int32} {a3 : Int32} {a4 : Int32} (h : pok st) : pok (f_BN_setPoint st a1 a2 a3 a4).1 := pok_of h (fr_BN_setPoint (by decide) (by decide)) (fun _ => fr_BN_setPoint (by simp) (by decide))
set_option maxRecDepth 100000 in
set_option maxHeartbeats 4000000 in
theorem k_BN_setPoint (l : Launch) (D : va_G) (cA : Nat → ClassId) (b : Nat) (st : XS) (a1 : Int32) (a2 : Int32) (a3 : Int32) (a4 : Int32) : xMi cw D cA b l y_BN_setPoint (Cond.code y_BN_setPoint b_BN_setPoint 5 (some .boolean)) { frames := 2, cells := 0, slots := 0, locals := 46 } st [.ref (b + 0), .int a1, .int a2, .int a3, .int a4] (f_BN_setPoint st a1 a2 a3 a4).2 (f_BN_setPoint st a1 a2 a3 a4).1 := by
  refine xMi_of rfl (by decide) (Nat.le_of_ble_eq_true rfl) ?_
  intro p e s m below meth c ls C hlk hr hml hl hP hS
  have hl : lv_has ls 5 [(0, .ref (b + 0)), (1, .int a1), (2, .int a2), (3, .int a3), (4, .int a4)] := hl
  refine lv_aload_n C.1 C.2.1 d_BN_setPoint_0 rfl (lv_at hl 0 rfl) ?_
  refine lv_iload_n C.1 C.2.1 d_BN_setPoint_1 rfl (lv_at hl 1 rfl) ?_
  refine xcVi (rest := []) C hml hl.1 (k_BN_isOpen l D cA b st a1) q_BN_isOpen rfl rfl wg_424 wg_426 ws_1 ⟨Nat.le_of_ble_eq_true rfl, Nat.le_of_ble_eq_true rfl⟩ hP hS o_BN rfl c_BN rfl (Nat.le_of_ble_eq_true rfl) d_BN_setPoint_2 rfl (fun H locs hP hS => ?_)
  refine lv_if_eq (tgt := 18) C.1 C.2.1 d_BN_setPoint_5 (by decide) (fun h1 => ?_) (fun h1 => ?_)
  · refine lv_iconst (v := 0) C.1 C.2.1 d_BN_setPoint_18 (by decide) ?_
    exact xrz C hlk hr bz_0 hP hS d_BN_setPoint_19 ⟨by rw [f_BN_setPoint, if_pos h1], by rw [f_BN_setPoint, if_pos h1]⟩
  · refine lv_iload_n C.1 C.2.1 d_BN_setPoint_8 rfl (lv_at hl 2 rfl) ?_
    refine lv_iload_n C.1 C.2.1 d_BN_setPoint_9 rfl (lv_at hl 3 rfl) ?_
    refine lv_iload C.1 C.2.1 d_BN_setPoint_10 (lv_at hl 4 rfl) ?_
    refine xcSi (rest := []) C hml hl.1 (k_BN_isRange l D cA b st a2 a3 a4) q_BN_isRange rfl rfl wg_448 wg_449 ⟨Nat.le_of_ble_eq_true rfl, Nat.le_of_ble_eq_true rfl⟩ hP hS rfl (Nat.le_of_ble_eq_true rfl) d_BN_setPoint_12 rfl (fun H locs hP hS => ?_)
    refine lv_if_ne (tgt := 20) C.1 C.2.1 d_BN_setPoint_15 (by decide) (fun h2 => ?_) (fun h2 => ?_)
    · refine lv_aload_n C.1 C.2.1 d_BN_setPoint_20 rfl (lv_at hl 0 rfl) ?_
      refine xget C hP o_BN rfl c_BN (k := 0) (v := .ref (b + 1)) (by decide) wg_378 rfl d_BN_setPoint_21 ?_
      refine lv_iload_n C.1 C.2.1 d_BN_setPoint_24 rfl (lv_at hl 1 rfl) ?_
      refine xaald C hP o_da rfl (E := R_DE) rfl (v := b + (73 + 20 * a1.toNatClampNeg)) (vd_isOpen h1) rfl d_BN_setPoint_25 ?_
      refine xgetN C hP (o_DE (xin_lt (vd_isOpen h1))) rfl c_DE (k := 1) (v := .ref (b + (75 + 20 * a1.toNatClampNeg))) (by decide) wn_283 rfl d_BN_setPoint_26 ?_
      refine lv_iload_n C.1 C.2.1 d_BN_setPoint_29 rfl (lv_at hl 2 rfl) ?_
      refine lv_iload_n C.1 C.2.1 d_BN_setPoint_30 rfl (lv_at hl 3 rfl) ?_
      refine lv_iload C.1 C.2.1 d_BN_setPoint_31 (lv_at hl 4 rfl) ?_
      refine xcVNv (rest := []) C hml hl.1 (k_SE_describe l D cA b st a1.toNatClampNeg (xin_lt (vd_isOpen h1)) a2 a3 a4) q_SE_describe rfl rfl wn_451 wg_453 ws_4 ⟨Nat.le_of_ble_eq_true rfl, Nat.le_of_ble_eq_true rfl⟩ hP hS (o_SE (xin_lt (vd_isOpen h1))) rfl c_SE rfl (Nat.le_of_ble_eq_true rfl) d_BN_setPoint_33 rfl (fun H locs hP hS => ?_)
      refine lv_iconst (v := 1) C.1 C.2.1 d_BN_setPoint_36 (by decide) ?_
      exact xrz C hlk hr bz_1 hP hS d_BN_setPoint_37 ⟨by rw [f_BN_setPoint, if_neg h1, if_neg h2], by rw [f_BN_setPoint, if_neg h1, if_neg h2]⟩
    · refine lv_iconst (v := 0) C.1 C.2.1 d_BN_setPoint_18 (by decide) ?_
      exact xrz C hlk hr bz_0 hP hS d_BN_setPoint_19 ⟨by rw [f_BN_setPoint, if_neg h1, if_pos h2], by rw [f_BN_setPoint, if_neg h1, if_pos h2]⟩
