def f_MO_confirm (st : XS) (a1 : Int32) : XS × Int32 :=
  if (f_MO_isAt (xu st 0 0 0 0) a1 2) = 0 then ((xu st 0 0 0 0), 0)
  else if (st 6 a1.toNatClampNeg 0) = 0 then (if (st 1 ((st 3 a1.toNatClampNeg 0)).toNatClampNeg 0) = 0 then ((xu st 0 0 0 0), 0)
    else ((f_MO_settle (xu (xu st 0 0 0 0) 6 a1.toNatClampNeg 0 (st 1 ((st 3 a1.toNatClampNeg 0)).toNatClampNeg 0))), 1))
  else ((xu st 0 0 0 0), 0)
set_option maxRecDepth 100000 in
set_option maxHeartbeats 4000000 in
theorem z_MO_confirm {st : XS} {a1 : Int32} : bz (f_MO_confirm st a1).2 = (f_MO_confirm st a1).2 := by
  unfold f_MO_confirm
  repeat' split
  all_goals first | with_reducible exact bz_0 | with_reducible exact bz_1 | with_reducible exact bz_bz _ | with_reducible exact z_MO_isAt
set_option maxRecDepth 100000 in
set_option maxHeartbeats 4000000 in
theorem fr_MO_confirm {st : XS} {a1 : Int32} {a' k' i' : Nat} (h : (a', k') ∉ ([(0, 0), (0, 2), (0, 3), (0, 39)] : List (Nat × Nat))) (h2 : a' ∉ ([6, 30, 31, 32, 36, 37, 38, 39, 40, 41, 42, 43] : List Nat)) : (f_MO_confirm st a1).1 a' k' i' = st a' k' i' := by
  unfold f_MO_confirm
  repeat' split
  all_goals (try dsimp only)
  all_goals (repeat (first | with_reducible rfl | rw [xu_f (fun e => h (by rw [e]; decide))] | rw [xu_a (fun e => h2 (by rw [e]; decide))] | rw [fr_MO_settle (fun q => h ((by decide : ∀ z ∈ ([(0, 2), (0, 3), (0, 39)] : List (Nat × Nat)), z ∈ ([(0, 0), (0, 2), (0, 3), (0, 39)] : List (Nat × Nat))) _ q)) (fun q => h2 ((by decide : ∀ z ∈ ([30, 31, 32, 36, 37, 38, 39, 40, 41, 42, 43] : List Nat), z ∈ ([6, 30, 31, 32, 36, 37, 38, 39, 40, 41, 42, 43] : List Nat)) _ q))]))
theorem p_MO_confirm {st : XS} {a1 : Int32} (h : qok st) : qok (f_MO_confirm st a1).1 := by
  unfold f_MO_confirm
  repeat' split
  all_goals (try dsimp only)
  all_goals (repeat (first | with_reducible assumption | with_reducible refine p_MO_settle ?_ | with_reducible refine qok_xa ?_ (by decide) | with_reducible refine qok_xu ?_ ?_ | decide))
set_option maxRecDepth 100000 in
set_option maxHeartbeats 4000000 in
theorem k_MO_confirm (l : Launch) (D : va_G) (cA : Nat → ClassId) (b : Nat) (st : XS) (a1 : Int32) (hq : qok st) (hc : cok st) (hb : ¬ (f_MO_isAt (xu st 0 0 0 0) a1 2) = 0 → vp_in (st 3 a1.toNatClampNeg 0) 4) : xMi mw D cA b l y_MO_confirm (Cond.code y_MO_confirm b_MO_confirm 2 (some .boolean)) { frames := 3, cells := 0, slots := 0, locals := 65 } st [.ref (b + 0), .int a1] (f_MO_confirm st a1).2 (f_MO_confirm st a1).1 := by
  refine xMi_of rfl (by decide) (Nat.le_of_ble_eq_true rfl) ?_
  intro p e s m below meth c ls C hlk hr hml hl hP hS
  have hl : lv_has ls 2 [(0, .ref (b + 0)), (1, .int a1)] := hl
  refine lv_aload_n C.1 C.2.1 d_MO_confirm_0 rfl (lv_at hl 0 rfl) ?_
  refine lv_iconst (v := 0) C.1 C.2.1 d_MO_confirm_1 (by decide) ?_
  refine xput mw_inj C hP hS o_MO rfl c_MO (k := 0) (x := 0) (by decide) wg_877 rfl rfl rfl rfl d_MO_confirm_2 (fun H locs hP hS => ?_)
  refine lv_aload_n C.1 C.2.1 d_MO_confirm_5 rfl (lv_at hl 0 rfl) ?_
  refine lv_iload_n C.1 C.2.1 d_MO_confirm_6 rfl (lv_at hl 1 rfl) ?_
  refine lv_iconst (v := 2) C.1 C.2.1 d_MO_confirm_7 (by decide) ?_
  refine xcVi (rest := []) C hml hl.1 (k_MO_isAt l D cA b (xu st 0 0 0 0) a1 2) q_MO_isAt rfl rfl wg_1083 wg_1085 ws_53 ⟨Nat.le_of_ble_eq_true rfl, Nat.le_of_ble_eq_true rfl⟩ hP hS o_MO rfl c_MO rfl (Nat.le_of_ble_eq_true rfl) d_MO_confirm_8 rfl (fun H locs hP hS => ?_)
  refine lv_if_eq (tgt := 37) C.1 C.2.1 d_MO_confirm_11 (by decide) (fun h1 => ?_) (fun h1 => ?_)
  · refine lv_iconst (v := 0) C.1 C.2.1 d_MO_confirm_37 (by decide) ?_
    exact xrz C hlk hr bz_0 hP hS d_MO_confirm_38 ⟨by rw [f_MO_confirm, if_pos h1], by rw [f_MO_confirm, if_pos h1]⟩
  · refine lv_aload_n C.1 C.2.1 d_MO_confirm_14 rfl (lv_at hl 0 rfl) ?_
    refine xget C hP o_MO rfl c_MO (k := 9) (v := .ref (b + 6)) (by decide) wg_886 rfl d_MO_confirm_15 ?_
    refine lv_iload_n C.1 C.2.1 d_MO_confirm_18 rfl (lv_at hl 1 rfl) ?_
    refine xiald C hP om_6 rfl (v := (st 6 a1.toNatClampNeg 0)) (vm_isAt h1) (congrArg Value.int (xu_a (by decide))) d_MO_confirm_19 ?_
    refine lv_if_ne (tgt := 37) C.1 C.2.1 d_MO_confirm_20 (by decide) (fun h2 => ?_) (fun h2 => ?_)
    · refine lv_iconst (v := 0) C.1 C.2.1 d_MO_confirm_37 (by decide) ?_
      exact xrz C hlk hr bz_0 hP hS d_MO_confirm_38 ⟨by rw [f_MO_confirm, if_neg h1, if_neg h2], by rw [f_MO_confirm, if_neg h1, if_neg h2]⟩
    · refine lv_aload_n C.1 C.2.1 d_MO_confirm_23 rfl (lv_at hl 0 rfl) ?_
      refine xget C hP o_MO rfl c_MO (k := 4) (v := .ref (b + 1)) (by decide) wg_881 rfl d_MO_confirm_24 ?_
      refine lv_aload_n C.1 C.2.1 d_MO_confirm_27 rfl (lv_at hl 0 rfl) ?_
      refine xget C hP o_MO rfl c_MO (k := 6) (v := .ref (b + 3)) (by decide) wg_883 rfl d_MO_confirm_28 ?_
      refine lv_iload_n C.1 C.2.1 d_MO_confirm_31 rfl (lv_at hl 1 rfl) ?_
      refine xiald C hP om_3 rfl (v := (st 3 a1.toNatClampNeg 0)) (vm_isAt h1) (congrArg Value.int (xu_a (by decide))) d_MO_confirm_32 ?_
      refine xiald C hP om_1 rfl (v := (st 1 ((st 3 a1.toNatClampNeg 0)).toNatClampNeg 0)) (hb h1) (congrArg Value.int (xu_a (by decide))) d_MO_confirm_33 ?_
      refine lv_if_ne (tgt := 39) C.1 C.2.1 d_MO_confirm_34 (by decide) (fun h3 => ?_) (fun h3 => ?_)
      · refine lv_aload_n C.1 C.2.1 d_MO_confirm_39 rfl (lv_at hl 0 rfl) ?_
        refine xget C hP o_MO rfl c_MO (k := 9) (v := .ref (b + 6)) (by decide) wg_886 rfl d_MO_confirm_40 ?_
        refine lv_iload_n C.1 C.2.1 d_MO_confirm_43 rfl (lv_at hl 1 rfl) ?_
        refine lv_aload_n C.1 C.2.1 d_MO_confirm_44 rfl (lv_at hl 0 rfl) ?_
        refine xget C hP o_MO rfl c_MO (k := 4) (v := .ref (b + 1)) (by decide) wg_881 rfl d_MO_confirm_45 ?_
        refine lv_aload_n C.1 C.2.1 d_MO_confirm_48 rfl (lv_at hl 0 rfl) ?_
        refine xget C hP o_MO rfl c_MO (k := 6) (v := .ref (b + 3)) (by decide) wg_883 rfl d_MO_confirm_49 ?_
        refine lv_iload_n C.1 C.2.1 d_MO_confirm_52 rfl (lv_at hl 1 rfl) ?_
        refine xiald C hP om_3 rfl (v := (st 3 a1.toNatClampNeg 0)) (vm_isAt h1) (congrArg Value.int (xu_a (by decide))) d_MO_confirm_53 ?_
        refine xiald C hP om_1 rfl (v := (st 1 ((st 3 a1.toNatClampNeg 0)).toNatClampNeg 0)) (hb h1) (congrArg Value.int (xu_a (by decide))) d_MO_confirm_54 ?_
        refine xiast mw_inj C hP hS om_6 rfl (vm_isAt h1) rfl d_MO_confirm_55 (fun H locs hP hS => ?_)
        refine lv_aload_n C.1 C.2.1 d_MO_confirm_56 rfl (lv_at hl 0 rfl) ?_
        refine xcVv (rest := []) C hml hl.1 (k_MO_settle l D cA b (xu (xu st 0 0 0 0) 6 a1.toNatClampNeg 0 (st 1 ((st 3 a1.toNatClampNeg 0)).toNatClampNeg 0)) (qok_xa (qok_xu hq (by decide)) (by decide)) (cok_of (cok_of hc (fun _ => xu_a (by decide))) (fun _ => xu_a (by decide)))) q_MO_settle rfl rfl wg_1119 wg_1121 ws_56 ⟨Nat.le_of_ble_eq_true rfl, Nat.le_of_ble_eq_true rfl⟩ hP hS o_MO rfl c_MO rfl (Nat.le_of_ble_eq_true rfl) d_MO_confirm_57 rfl (fun H locs hP hS => ?_)
        refine lv_iconst (v := 1) C.1 C.2.1 d_MO_confirm_60 (by decide) ?_
        exact xrz C hlk hr bz_1 hP hS d_MO_confirm_61 ⟨by rw [f_MO_confirm, if_neg h1, if_pos h2, if_neg h3], by rw [f_MO_confirm, if_neg h1, if_pos h2, if_neg h3]⟩
      · refine lv_iconst (v := 0) C.1 C.2.1 d_MO_confirm_37 (by decide) ?_
        exact xrz C hlk hr bz_0 hP hS d_MO_confirm_38 ⟨by rw [f_MO_confirm, if_neg h1, if_pos h2, if_pos h3], by rw [f_MO_confirm, if_neg h1, if_pos h2, if_pos h3]⟩
