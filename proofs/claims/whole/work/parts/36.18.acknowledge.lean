def f_MO_acknowledge (st : XS) (a1 : Int32) (a2 : Int32) : XS × Int32 :=
  if (f_MO_isDevice a1) = 0 then ((xu st 0 0 0 0), 0)
  else if a2 < 0 then ((xu st 0 0 0 0), 0)
  else if 3 < a2 then ((xu st 0 0 0 0), 0)
  else if (st 33 (((4 * a1) + a2)).toNatClampNeg 0) = 2 then ((f_MO_settle (f_MO_send (xu (xu st 0 0 0 0) 33 (((4 * a1) + a2)).toNatClampNeg 0 3) 4 a1 a2 0 0)), 1)
  else ((xu st 0 0 0 0), 0)
set_option maxRecDepth 100000 in
set_option maxHeartbeats 4000000 in
theorem z_MO_acknowledge {st : XS} {a1 : Int32} {a2 : Int32} : bz (f_MO_acknowledge st a1 a2).2 = (f_MO_acknowledge st a1 a2).2 := by
  unfold f_MO_acknowledge
  repeat' split
  all_goals first | with_reducible exact bz_0 | with_reducible exact bz_1 | with_reducible exact bz_bz _ | with_reducible exact z_MO_isDevice
set_option maxRecDepth 100000 in
set_option maxHeartbeats 4000000 in
theorem fr_MO_acknowledge {st : XS} {a1 : Int32} {a2 : Int32} {a' k' i' : Nat} (h : (a', k') ∉ ([(0, 0), (0, 2), (0, 3), (0, 39)] : List (Nat × Nat))) (h2 : a' ∉ ([30, 31, 32, 33, 36, 37, 38, 39, 40, 41, 42, 43] : List Nat)) : (f_MO_acknowledge st a1 a2).1 a' k' i' = st a' k' i' := by
  unfold f_MO_acknowledge
  repeat' split
  all_goals (try dsimp only)
  all_goals (repeat (first | with_reducible rfl | rw [xu_f (fun e => h (by rw [e]; decide))] | rw [xu_a (fun e => h2 (by rw [e]; decide))] | rw [fr_MO_send (fun q => h ((by decide : ∀ z ∈ ([(0, 2), (0, 3), (0, 39)] : List (Nat × Nat)), z ∈ ([(0, 0), (0, 2), (0, 3), (0, 39)] : List (Nat × Nat))) _ q)) (fun q => h2 ((by decide : ∀ z ∈ ([36, 37, 38, 39, 40, 41, 42, 43] : List Nat), z ∈ ([30, 31, 32, 33, 36, 37, 38, 39, 40, 41, 42, 43] : List Nat)) _ q))] | rw [fr_MO_settle (fun q => h ((by decide : ∀ z ∈ ([(0, 2), (0, 3), (0, 39)] : List (Nat × Nat)), z ∈ ([(0, 0), (0, 2), (0, 3), (0, 39)] : List (Nat × Nat))) _ q)) (fun q => h2 ((by decide : ∀ z ∈ ([30, 31, 32, 36, 37, 38, 39, 40, 41, 42, 43] : List Nat), z ∈ ([30, 31, 32, 33, 36, 37, 38, 39, 40, 41, 42, 43] : List Nat)) _ q))]))
theorem p_MO_acknowledge {st : XS} {a1 : Int32} {a2 : Int32} (h : qok st) : qok (f_MO_acknowledge st a1 a2).1 := by
  unfold f_MO_acknowledge
  repeat' split
  all_goals (try dsimp only)
  all_goals (repeat (first | with_reducible assumption | with_reducible refine p_MO_send ?_ | with_reducible refine p_MO_settle ?_ | with_reducible refine qok_xa ?_ (by decide) | with_reducible refine qok_xu ?_ ?_ | decide))
set_option maxRecDepth 100000 in
set_option maxHeartbeats 4000000 in
theorem k_MO_acknowledge (l : Launch) (D : va_G) (cA : Nat → ClassId) (b : Nat) (st : XS) (a1 : Int32) (a2 : Int32) (hq : qok st) (hc : cok st) : xMi mw D cA b l y_MO_acknowledge (Cond.code y_MO_acknowledge b_MO_acknowledge 3 (some .boolean)) { frames := 3, cells := 0, slots := 0, locals := 65 } st [.ref (b + 0), .int a1, .int a2] (f_MO_acknowledge st a1 a2).2 (f_MO_acknowledge st a1 a2).1 := by
  refine xMi_of rfl (by decide) (Nat.le_of_ble_eq_true rfl) ?_
  intro p e s m below meth c ls C hlk hr hml hl hP hS
  have hl : lv_has ls 3 [(0, .ref (b + 0)), (1, .int a1), (2, .int a2)] := hl
  refine lv_aload_n C.1 C.2.1 d_MO_acknowledge_0 rfl (lv_at hl 0 rfl) ?_
  refine lv_iconst (v := 0) C.1 C.2.1 d_MO_acknowledge_1 (by decide) ?_
  refine xput mw_inj C hP hS o_MO rfl c_MO (k := 0) (x := 0) (by decide) wg_877 rfl rfl rfl rfl d_MO_acknowledge_2 (fun H locs hP hS => ?_)
  refine lv_iload_n C.1 C.2.1 d_MO_acknowledge_5 rfl (lv_at hl 1 rfl) ?_
  refine xcSi (rest := []) C hml hl.1 (k_MO_isDevice l D cA b (xu st 0 0 0 0) a1) q_MO_isDevice rfl rfl wg_1073 wg_1074 ⟨Nat.le_of_ble_eq_true rfl, Nat.le_of_ble_eq_true rfl⟩ hP hS rfl (Nat.le_of_ble_eq_true rfl) d_MO_acknowledge_6 rfl (fun H locs hP hS => ?_)
  refine lv_if_eq (tgt := 35) C.1 C.2.1 d_MO_acknowledge_9 (by decide) (fun h1 => ?_) (fun h1 => ?_)
  · refine lv_iconst (v := 0) C.1 C.2.1 d_MO_acknowledge_35 (by decide) ?_
    exact xrz C hlk hr bz_0 hP hS d_MO_acknowledge_36 ⟨by rw [f_MO_acknowledge, if_pos h1], by rw [f_MO_acknowledge, if_pos h1]⟩
  · refine lv_iload_n C.1 C.2.1 d_MO_acknowledge_12 rfl (lv_at hl 2 rfl) ?_
    refine lv_if_lt (tgt := 35) C.1 C.2.1 d_MO_acknowledge_13 (by decide) (fun h2 => ?_) (fun h2 => ?_)
    · refine lv_iconst (v := 0) C.1 C.2.1 d_MO_acknowledge_35 (by decide) ?_
      exact xrz C hlk hr bz_0 hP hS d_MO_acknowledge_36 ⟨by rw [f_MO_acknowledge, if_neg h1, if_pos h2], by rw [f_MO_acknowledge, if_neg h1, if_pos h2]⟩
    · refine lv_iload_n C.1 C.2.1 d_MO_acknowledge_16 rfl (lv_at hl 2 rfl) ?_
      refine lv_iconst (v := 3) C.1 C.2.1 d_MO_acknowledge_17 (by decide) ?_
      refine lv_icmp_gt (tgt := 35) C.1 C.2.1 d_MO_acknowledge_18 (by decide) (fun h3 => ?_) (fun h3 => ?_)
      · refine lv_iconst (v := 0) C.1 C.2.1 d_MO_acknowledge_35 (by decide) ?_
        exact xrz C hlk hr bz_0 hP hS d_MO_acknowledge_36 ⟨by rw [f_MO_acknowledge, if_neg h1, if_neg h2, if_pos h3], by rw [f_MO_acknowledge, if_neg h1, if_neg h2, if_pos h3]⟩
      · refine lv_aload_n C.1 C.2.1 d_MO_acknowledge_21 rfl (lv_at hl 0 rfl) ?_
        refine xget C hP o_MO rfl c_MO (k := 36) (v := .ref (b + 33)) (by decide) wg_913 rfl d_MO_acknowledge_22 ?_
        refine lv_iconst (v := 4) C.1 C.2.1 d_MO_acknowledge_25 (by decide) ?_
        refine lv_iload_n C.1 C.2.1 d_MO_acknowledge_26 rfl (lv_at hl 1 rfl) ?_
        refine lv_imul C.1 C.2.1 d_MO_acknowledge_27 ?_
        refine lv_iload_n C.1 C.2.1 d_MO_acknowledge_28 rfl (lv_at hl 2 rfl) ?_
        refine lv_iadd C.1 C.2.1 d_MO_acknowledge_29 ?_
        refine xiald C hP om_33 rfl (v := (st 33 (((4 * a1) + a2)).toNatClampNeg 0)) (ix4 (vm_isDevice h1) (ak_in h2 h3)) (congrArg Value.int (xu_a (by decide))) d_MO_acknowledge_30 ?_
        refine lv_iconst (v := 2) C.1 C.2.1 d_MO_acknowledge_31 (by decide) ?_
        refine lv_icmp_eq (tgt := 37) C.1 C.2.1 d_MO_acknowledge_32 (by decide) (fun h4 => ?_) (fun h4 => ?_)
        · refine lv_aload_n C.1 C.2.1 d_MO_acknowledge_37 rfl (lv_at hl 0 rfl) ?_
          refine xget C hP o_MO rfl c_MO (k := 36) (v := .ref (b + 33)) (by decide) wg_913 rfl d_MO_acknowledge_38 ?_
          refine lv_iconst (v := 4) C.1 C.2.1 d_MO_acknowledge_41 (by decide) ?_
          refine lv_iload_n C.1 C.2.1 d_MO_acknowledge_42 rfl (lv_at hl 1 rfl) ?_
          refine lv_imul C.1 C.2.1 d_MO_acknowledge_43 ?_
          refine lv_iload_n C.1 C.2.1 d_MO_acknowledge_44 rfl (lv_at hl 2 rfl) ?_
          refine lv_iadd C.1 C.2.1 d_MO_acknowledge_45 ?_
          refine lv_iconst (v := 3) C.1 C.2.1 d_MO_acknowledge_46 (by decide) ?_
          refine xiast mw_inj C hP hS om_33 rfl (ix4 (vm_isDevice h1) (ak_in h2 h3)) rfl d_MO_acknowledge_47 (fun H locs hP hS => ?_)
          refine lv_aload_n C.1 C.2.1 d_MO_acknowledge_48 rfl (lv_at hl 0 rfl) ?_
          refine lv_iconst (v := 4) C.1 C.2.1 d_MO_acknowledge_49 (by decide) ?_
          refine lv_iload_n C.1 C.2.1 d_MO_acknowledge_50 rfl (lv_at hl 1 rfl) ?_
          refine lv_iload_n C.1 C.2.1 d_MO_acknowledge_51 rfl (lv_at hl 2 rfl) ?_
          refine lv_iconst (v := 0) C.1 C.2.1 d_MO_acknowledge_52 (by decide) ?_
          refine lv_iconst (v := 0) C.1 C.2.1 d_MO_acknowledge_53 (by decide) ?_
          refine xcVv (rest := []) C hml hl.1 (k_MO_send l D cA b (xu (xu st 0 0 0 0) 33 (((4 * a1) + a2)).toNatClampNeg 0 3) 4 a1 a2 0 0 (qok_xa (qok_xu hq (by decide)) (by decide)) (vm_isDevice h1)) q_MO_send rfl rfl wg_1135 wg_1137 ws_60 ⟨Nat.le_of_ble_eq_true rfl, Nat.le_of_ble_eq_true rfl⟩ hP hS o_MO rfl c_MO rfl (Nat.le_of_ble_eq_true rfl) d_MO_acknowledge_54 rfl (fun H locs hP hS => ?_)
          refine lv_aload_n C.1 C.2.1 d_MO_acknowledge_57 rfl (lv_at hl 0 rfl) ?_
          refine xcVv (rest := []) C hml hl.1 (k_MO_settle l D cA b (f_MO_send (xu (xu st 0 0 0 0) 33 (((4 * a1) + a2)).toNatClampNeg 0 3) 4 a1 a2 0 0) (p_MO_send (qok_xa (qok_xu hq (by decide)) (by decide))) (cok_of (cok_of (cok_of hc (fun _ => xu_a (by decide))) (fun _ => xu_a (by decide))) (fun _ => fr_MO_send (by simp) (by decide)))) q_MO_settle rfl rfl wg_1119 wg_1121 ws_56 ⟨Nat.le_of_ble_eq_true rfl, Nat.le_of_ble_eq_true rfl⟩ hP hS o_MO rfl c_MO rfl (Nat.le_of_ble_eq_true rfl) d_MO_acknowledge_58 rfl (fun H locs hP hS => ?_)
          refine lv_iconst (v := 1) C.1 C.2.1 d_MO_acknowledge_61 (by decide) ?_
          exact xrz C hlk hr bz_1 hP hS d_MO_acknowledge_62 ⟨by rw [f_MO_acknowledge, if_neg h1, if_neg h2, if_neg h3, if_pos h4], by rw [f_MO_acknowledge, if_neg h1, if_neg h2, if_neg h3, if_pos h4]⟩
        · refine lv_iconst (v := 0) C.1 C.2.1 d_MO_acknowledge_35 (by decide) ?_
          exact xrz C hlk hr bz_0 hP hS d_MO_acknowledge_36 ⟨by rw [f_MO_acknowledge, if_neg h1, if_neg h2, if_neg h3, if_neg h4], by rw [f_MO_acknowledge, if_neg h1, if_neg h2, if_neg h3, if_neg h4]⟩
