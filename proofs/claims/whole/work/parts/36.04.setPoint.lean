def f_MO_setPoint (st : XS) (a1 : Int32) (a2 : Int32) (a3 : Int32) (a4 : Int32) : XS × Int32 :=
  if (f_MO_isAt (xu st 0 0 0 0) a1 1) = 0 then ((xu st 0 0 0 0), 0)
  else if (f_MO_isRange a2 a3 a4) = 0 then ((xu st 0 0 0 0), 0)
  else ((xu (xu (xu (xu (xu (xu st 0 0 0 0) 8 a1.toNatClampNeg 0 1) 9 a1.toNatClampNeg 0 a2) 10 a1.toNatClampNeg 0 a3) 11 a1.toNatClampNeg 0 a4) 12 a1.toNatClampNeg 0 a2), 1)
set_option maxRecDepth 100000 in
set_option maxHeartbeats 4000000 in
theorem z_MO_setPoint {st : XS} {a1 : Int32} {a2 : Int32} {a3 : Int32} {a4 : Int32} : bz (f_MO_setPoint st a1 a2 a3 a4).2 = (f_MO_setPoint st a1 a2 a3 a4).2 := by
  unfold f_MO_setPoint
  repeat' split
  all_goals first | with_reducible exact bz_0 | with_reducible exact bz_1 | with_reducible exact bz_bz _ | with_reducible exact z_MO_isAt | with_reducible exact z_MO_isRange
set_option maxRecDepth 100000 in
set_option maxHeartbeats 4000000 in
theorem fr_MO_setPoint {st : XS} {a1 : Int32} {a2 : Int32} {a3 : Int32} {a4 : Int32} {a' k' i' : Nat} (h : (a', k') ∉ ([(0, 0)] : List (Nat × Nat))) (h2 : a' ∉ ([8, 9, 10, 11, 12] : List Nat)) : (f_MO_setPoint st a1 a2 a3 a4).1 a' k' i' = st a' k' i' := by
  unfold f_MO_setPoint
  repeat' split
  all_goals (try dsimp only)
  all_goals (repeat (first | with_reducible rfl | rw [xu_f (fun e => h (by rw [e]; decide))] | rw [xu_a (fun e => h2 (by rw [e]; decide))]))
theorem p_MO_setPoint {st : XS} {a1 : Int32} {a2 : Int32} {a3 : Int32} {a4 : Int32} (h : qok st) : qok (f_MO_setPoint st a1 a2 a3 a4).1 := qok_of h (fr_MO_setPoint (by decide) (by decide))
set_option maxRecDepth 100000 in
set_option maxHeartbeats 4000000 in
theorem k_MO_setPoint (l : Launch) (D : va_G) (cA : Nat → ClassId) (b : Nat) (st : XS) (a1 : Int32) (a2 : Int32) (a3 : Int32) (a4 : Int32) : xMi mw D cA b l y_MO_setPoint (Cond.code y_MO_setPoint b_MO_setPoint 5 (some .boolean)) { frames := 2, cells := 0, slots := 0, locals := 42 } st [.ref (b + 0), .int a1, .int a2, .int a3, .int a4] (f_MO_setPoint st a1 a2 a3 a4).2 (f_MO_setPoint st a1 a2 a3 a4).1 := by
  refine xMi_of rfl (by decide) (Nat.le_of_ble_eq_true rfl) ?_
  intro p e s m below meth c ls C hlk hr hml hl hP hS
  have hl : lv_has ls 5 [(0, .ref (b + 0)), (1, .int a1), (2, .int a2), (3, .int a3), (4, .int a4)] := hl
  refine lv_aload_n C.1 C.2.1 d_MO_setPoint_0 rfl (lv_at hl 0 rfl) ?_
  refine lv_iconst (v := 0) C.1 C.2.1 d_MO_setPoint_1 (by decide) ?_
  refine xput mw_inj C hP hS o_MO rfl c_MO (k := 0) (x := 0) (by decide) wg_877 rfl rfl rfl rfl d_MO_setPoint_2 (fun H locs hP hS => ?_)
  refine lv_aload_n C.1 C.2.1 d_MO_setPoint_5 rfl (lv_at hl 0 rfl) ?_
  refine lv_iload_n C.1 C.2.1 d_MO_setPoint_6 rfl (lv_at hl 1 rfl) ?_
  refine lv_iconst (v := 1) C.1 C.2.1 d_MO_setPoint_7 (by decide) ?_
  refine xcVi (rest := []) C hml hl.1 (k_MO_isAt l D cA b (xu st 0 0 0 0) a1 1) q_MO_isAt rfl rfl wg_1083 wg_1085 ws_53 ⟨Nat.le_of_ble_eq_true rfl, Nat.le_of_ble_eq_true rfl⟩ hP hS o_MO rfl c_MO rfl (Nat.le_of_ble_eq_true rfl) d_MO_setPoint_8 rfl (fun H locs hP hS => ?_)
  refine lv_if_eq (tgt := 24) C.1 C.2.1 d_MO_setPoint_11 (by decide) (fun h1 => ?_) (fun h1 => ?_)
  · refine lv_iconst (v := 0) C.1 C.2.1 d_MO_setPoint_24 (by decide) ?_
    exact xrz C hlk hr bz_0 hP hS d_MO_setPoint_25 ⟨by rw [f_MO_setPoint, if_pos h1], by rw [f_MO_setPoint, if_pos h1]⟩
  · refine lv_iload_n C.1 C.2.1 d_MO_setPoint_14 rfl (lv_at hl 2 rfl) ?_
    refine lv_iload_n C.1 C.2.1 d_MO_setPoint_15 rfl (lv_at hl 3 rfl) ?_
    refine lv_iload C.1 C.2.1 d_MO_setPoint_16 (lv_at hl 4 rfl) ?_
    refine xcSi (rest := []) C hml hl.1 (k_MO_isRange l D cA b (xu st 0 0 0 0) a2 a3 a4) q_MO_isRange rfl rfl wg_1087 wg_1088 ⟨Nat.le_of_ble_eq_true rfl, Nat.le_of_ble_eq_true rfl⟩ hP hS rfl (Nat.le_of_ble_eq_true rfl) d_MO_setPoint_18 rfl (fun H locs hP hS => ?_)
    refine lv_if_ne (tgt := 26) C.1 C.2.1 d_MO_setPoint_21 (by decide) (fun h2 => ?_) (fun h2 => ?_)
    · refine lv_aload_n C.1 C.2.1 d_MO_setPoint_26 rfl (lv_at hl 0 rfl) ?_
      refine xget C hP o_MO rfl c_MO (k := 11) (v := .ref (b + 8)) (by decide) wg_888 rfl d_MO_setPoint_27 ?_
      refine lv_iload_n C.1 C.2.1 d_MO_setPoint_30 rfl (lv_at hl 1 rfl) ?_
      refine lv_iconst (v := 1) C.1 C.2.1 d_MO_setPoint_31 (by decide) ?_
      refine xzast mw_inj C hP hS om_8 rfl (vm_isAt h1) rfl d_MO_setPoint_32 (fun H locs hP hS => ?_)
      refine lv_aload_n C.1 C.2.1 d_MO_setPoint_33 rfl (lv_at hl 0 rfl) ?_
      refine xget C hP o_MO rfl c_MO (k := 12) (v := .ref (b + 9)) (by decide) wg_889 rfl d_MO_setPoint_34 ?_
      refine lv_iload_n C.1 C.2.1 d_MO_setPoint_37 rfl (lv_at hl 1 rfl) ?_
      refine lv_iload_n C.1 C.2.1 d_MO_setPoint_38 rfl (lv_at hl 2 rfl) ?_
      refine xiast mw_inj C hP hS om_9 rfl (vm_isAt h1) rfl d_MO_setPoint_39 (fun H locs hP hS => ?_)
      refine lv_aload_n C.1 C.2.1 d_MO_setPoint_40 rfl (lv_at hl 0 rfl) ?_
      refine xget C hP o_MO rfl c_MO (k := 13) (v := .ref (b + 10)) (by decide) wg_890 rfl d_MO_setPoint_41 ?_
      refine lv_iload_n C.1 C.2.1 d_MO_setPoint_44 rfl (lv_at hl 1 rfl) ?_
      refine lv_iload_n C.1 C.2.1 d_MO_setPoint_45 rfl (lv_at hl 3 rfl) ?_
      refine xiast mw_inj C hP hS om_10 rfl (vm_isAt h1) rfl d_MO_setPoint_46 (fun H locs hP hS => ?_)
      refine lv_aload_n C.1 C.2.1 d_MO_setPoint_47 rfl (lv_at hl 0 rfl) ?_
      refine xget C hP o_MO rfl c_MO (k := 14) (v := .ref (b + 11)) (by decide) wg_891 rfl d_MO_setPoint_48 ?_
      refine lv_iload_n C.1 C.2.1 d_MO_setPoint_51 rfl (lv_at hl 1 rfl) ?_
      refine lv_iload C.1 C.2.1 d_MO_setPoint_52 (lv_at hl 4 rfl) ?_
      refine xiast mw_inj C hP hS om_11 rfl (vm_isAt h1) rfl d_MO_setPoint_54 (fun H locs hP hS => ?_)
      refine lv_aload_n C.1 C.2.1 d_MO_setPoint_55 rfl (lv_at hl 0 rfl) ?_
      refine xget C hP o_MO rfl c_MO (k := 15) (v := .ref (b + 12)) (by decide) wg_892 rfl d_MO_setPoint_56 ?_
      refine lv_iload_n C.1 C.2.1 d_MO_setPoint_59 rfl (lv_at hl 1 rfl) ?_
      refine lv_iload_n C.1 C.2.1 d_MO_setPoint_60 rfl (lv_at hl 2 rfl) ?_
      refine xiast mw_inj C hP hS om_12 rfl (vm_isAt h1) rfl d_MO_setPoint_61 (fun H locs hP hS => ?_)
      refine lv_iconst (v := 1) C.1 C.2.1 d_MO_setPoint_62 (by decide) ?_
      exact xrz C hlk hr bz_1 hP hS d_MO_setPoint_63 ⟨by rw [f_MO_setPoint, if_neg h1, if_neg h2], by rw [f_MO_setPoint, if_neg h1, if_neg h2]⟩
    · refine lv_iconst (v := 0) C.1 C.2.1 d_MO_setPoint_24 (by decide) ?_
      exact xrz C hlk hr bz_0 hP hS d_MO_setPoint_25 ⟨by rw [f_MO_setPoint, if_neg h1, if_pos h2], by rw [f_MO_setPoint, if_neg h1, if_pos h2]⟩
