def f_BN_device (st : XS) (a1 : Int32) (a2 : Int32) : XS × Int32 :=
  if (f_BN_isDevice a1) = 0 then (st, 0)
  else if (f_BN_isBed a2) = 0 then (st, 0)
  else if (st 8 2 a1.toNatClampNeg) = 2 then (st, 0)
  else ((f_DE_begin st a1.toNatClampNeg a2), 1)
set_option maxRecDepth 100000 in
set_option maxHeartbeats 4000000 in
theorem z_BN_device {st : XS} {a1 : Int32} {a2 : Int32} : bz (f_BN_device st a1 a2).2 = (f_BN_device st a1 a2).2 := by
  unfold f_BN_device
  repeat' split
  all_goals first | with_reducible exact bz_0 | with_reducible exact bz_1 | with_reducible exact bz_bz _ | with_reducible exact z_BN_isBed | with_reducible exact z_BN_isDevice
set_option maxRecDepth 100000 in
set_option maxHeartbeats 4000000 in
theorem fr_BN_device {st : XS} {a1 : Int32} {a2 : Int32} {a' k' i' : Nat} (h : (a', k') ∉ ([(8, 2), (8, 3), (8, 5), (10, 1)] : List (Nat × Nat))) (h2 : a' ∉ ([] : List Nat)) : (f_BN_device st a1 a2).1 a' k' i' = st a' k' i' := by
  unfold f_BN_device
  repeat' split
  all_goals (try dsimp only)
  all_goals (repeat (first | with_reducible rfl | rw [xu_f (fun e => h (by rw [e]; decide))] | rw [fr_DE_begin (fun q => h ((by decide : ∀ z ∈ ([(8, 2), (8, 3), (8, 5), (10, 1)] : List (Nat × Nat)), z ∈ ([(8, 2), (8, 3), (8, 5), (10, 1)] : List (Nat × Nat))) _ q)) (fun q => h2 ((by decide : ∀ z ∈ ([] : List Nat), z ∈ ([] : List Nat)) _ q))]))
theorem p_BN_device {st : XS} {a1 : Int32} {a2 : Int32} (h : pok st) : pok (f_BN_device st a1 a2).1 := pok_of h (fr_BN_device (by decide) (by decide)) (fun _ => fr_BN_device (by simp) (by decide))
set_option maxRecDepth 100000 in
set_option maxHeartbeats 4000000 in
theorem k_BN_device (l : Launch) (D : va_G) (cA : Nat → ClassId) (b : Nat) (st : XS) (a1 : Int32) (a2 : Int32) : xMi cw D cA b l y_BN_device (Cond.code y_BN_device b_BN_device 3 (some .boolean)) { frames := 1, cells := 0, slots := 0, locals := 21 } st [.ref (b + 0), .int a1, .int a2] (f_BN_device st a1 a2).2 (f_BN_device st a1 a2).1 := by
  refine xMi_of rfl (by decide) (Nat.le_of_ble_eq_true rfl) ?_
  intro p e s m below meth c ls C hlk hr hml hl hP hS
  have hl : lv_has ls 3 [(0, .ref (b + 0)), (1, .int a1), (2, .int a2)] := hl
  refine lv_iload_n C.1 C.2.1 d_BN_device_0 rfl (lv_at hl 1 rfl) ?_
  refine xcSi (rest := []) C hml hl.1 (k_BN_isDevice l D cA b st a1) q_BN_isDevice rfl rfl wg_410 wg_411 ⟨Nat.le_of_ble_eq_true rfl, Nat.le_of_ble_eq_true rfl⟩ hP hS rfl (Nat.le_of_ble_eq_true rfl) d_BN_device_1 rfl (fun H locs hP hS => ?_)
  refine lv_if_eq (tgt := 27) C.1 C.2.1 d_BN_device_4 (by decide) (fun h1 => ?_) (fun h1 => ?_)
  · refine lv_iconst (v := 0) C.1 C.2.1 d_BN_device_27 (by decide) ?_
    exact xrz C hlk hr bz_0 hP hS d_BN_device_28 ⟨by rw [f_BN_device, if_pos h1], by rw [f_BN_device, if_pos h1]⟩
  · refine lv_iload_n C.1 C.2.1 d_BN_device_7 rfl (lv_at hl 2 rfl) ?_
    refine xcSi (rest := []) C hml hl.1 (k_BN_isBed l D cA b st a2) q_BN_isBed rfl rfl wg_413 wg_414 ⟨Nat.le_of_ble_eq_true rfl, Nat.le_of_ble_eq_true rfl⟩ hP hS rfl (Nat.le_of_ble_eq_true rfl) d_BN_device_8 rfl (fun H locs hP hS => ?_)
    refine lv_if_eq (tgt := 27) C.1 C.2.1 d_BN_device_11 (by decide) (fun h2 => ?_) (fun h2 => ?_)
    · refine lv_iconst (v := 0) C.1 C.2.1 d_BN_device_27 (by decide) ?_
      exact xrz C hlk hr bz_0 hP hS d_BN_device_28 ⟨by rw [f_BN_device, if_neg h1, if_pos h2], by rw [f_BN_device, if_neg h1, if_pos h2]⟩
    · refine lv_aload_n C.1 C.2.1 d_BN_device_14 rfl (lv_at hl 0 rfl) ?_
      refine xget C hP o_BN rfl c_BN (k := 0) (v := .ref (b + 1)) (by decide) wg_378 rfl d_BN_device_15 ?_
      refine lv_iload_n C.1 C.2.1 d_BN_device_18 rfl (lv_at hl 1 rfl) ?_
      refine xaald C hP o_da rfl (E := R_DE) rfl (v := b + (73 + 20 * a1.toNatClampNeg)) (vd_isDevice h1) rfl d_BN_device_19 ?_
      refine xgetN C hP (o_DE (xin_lt (vd_isDevice h1))) rfl c_DE (k := 2) (v := .int (st 8 2 a1.toNatClampNeg)) (by decide) wn_285 rfl d_BN_device_20 ?_
      refine lv_iconst (v := 2) C.1 C.2.1 d_BN_device_23 (by decide) ?_
      refine lv_icmp_ne (tgt := 29) C.1 C.2.1 d_BN_device_24 (by decide) (fun h3 => ?_) (fun h3 => ?_)
      · refine lv_aload_n C.1 C.2.1 d_BN_device_29 rfl (lv_at hl 0 rfl) ?_
        refine xget C hP o_BN rfl c_BN (k := 0) (v := .ref (b + 1)) (by decide) wg_378 rfl d_BN_device_30 ?_
        refine lv_iload_n C.1 C.2.1 d_BN_device_33 rfl (lv_at hl 1 rfl) ?_
        refine xaald C hP o_da rfl (E := R_DE) rfl (v := b + (73 + 20 * a1.toNatClampNeg)) (vd_isDevice h1) rfl d_BN_device_34 ?_
        refine lv_iload_n C.1 C.2.1 d_BN_device_35 rfl (lv_at hl 2 rfl) ?_
        refine xcVNv (rest := []) C hml hl.1 (k_DE_begin l D cA b st a1.toNatClampNeg (xin_lt (vd_isDevice h1)) a2) q_DE_begin rfl rfl wn_416 wg_418 ws_0 ⟨Nat.le_of_ble_eq_true rfl, Nat.le_of_ble_eq_true rfl⟩ hP hS (o_DE (xin_lt (vd_isDevice h1))) rfl c_DE rfl (Nat.le_of_ble_eq_true rfl) d_BN_device_36 rfl (fun H locs hP hS => ?_)
        refine lv_iconst (v := 1) C.1 C.2.1 d_BN_device_39 (by decide) ?_
        exact xrz C hlk hr bz_1 hP hS d_BN_device_40 ⟨by rw [f_BN_device, if_neg h1, if_neg h2, if_neg h3], by rw [f_BN_device, if_neg h1, if_neg h2, if_neg h3]⟩
      · refine lv_iconst (v := 0) C.1 C.2.1 d_BN_device_27 (by decide) ?_
        exact xrz C hlk hr bz_0 hP hS d_BN_device_28 ⟨by rw [f_BN_device, if_neg h1, if_neg h2, if_pos h3], by rw [f_BN_device, if_neg h1, if_neg h2, if_pos h3]⟩
