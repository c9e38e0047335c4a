def f_MO_isLeased (st : XS) (a1 : Int32) : Int32 :=
  if (st 13 a1.toNatClampNeg 0) = (-1) then 0
  else if 10000 ≤ ((st 0 1 0) - (st 14 a1.toNatClampNeg 0)) then 0
  else 1
set_option maxRecDepth 100000 in
set_option maxHeartbeats 4000000 in
theorem z_MO_isLeased {st : XS} {a1 : Int32} : bz (f_MO_isLeased st a1) = (f_MO_isLeased st a1) := by
  unfold f_MO_isLeased
  repeat' split
  all_goals first | with_reducible exact bz_0 | with_reducible exact bz_1 | with_reducible exact bz_bz _
set_option maxRecDepth 100000 in
set_option maxHeartbeats 4000000 in
theorem k_MO_isLeased (l : Launch) (D : va_G) (cA : Nat → ClassId) (b : Nat) (st : XS) (a1 : Int32) (hd1 : vp_in a1 8) : xMi mw D cA b l y_MO_isLeased (Cond.code y_MO_isLeased b_MO_isLeased 2 (some .boolean)) { frames := 0, cells := 0, slots := 0, locals := 0 } st [.ref (b + 0), .int a1] (f_MO_isLeased st a1) st := by
  refine xMi_of rfl (by decide) (Nat.le_of_ble_eq_true rfl) ?_
  intro p e s m below meth c ls C hlk hr hml hl hP hS
  have hl : lv_has ls 2 [(0, .ref (b + 0)), (1, .int a1)] := hl
  refine lv_aload_n C.1 C.2.1 d_MO_isLeased_0 rfl (lv_at hl 0 rfl) ?_
  refine xget C hP o_MO rfl c_MO (k := 16) (v := .ref (b + 13)) (by decide) wg_893 rfl d_MO_isLeased_1 ?_
  refine lv_iload_n C.1 C.2.1 d_MO_isLeased_4 rfl (lv_at hl 1 rfl) ?_
  refine xiald C hP om_13 rfl (v := (st 13 a1.toNatClampNeg 0)) hd1 rfl d_MO_isLeased_5 ?_
  refine lv_iconst (v := (-1)) C.1 C.2.1 d_MO_isLeased_6 (by decide) ?_
  refine lv_icmp_eq (tgt := 31) C.1 C.2.1 d_MO_isLeased_7 (by decide) (fun h1 => ?_) (fun h1 => ?_)
  · refine lv_iconst (v := 0) C.1 C.2.1 d_MO_isLeased_31 (by decide) ?_
    exact xrz C hlk hr bz_0 hP hS d_MO_isLeased_32 ⟨by rw [f_MO_isLeased, if_pos h1], rfl⟩
  · refine lv_aload_n C.1 C.2.1 d_MO_isLeased_10 rfl (lv_at hl 0 rfl) ?_
    refine xget C hP o_MO rfl c_MO (k := 1) (v := .int (st 0 1 0)) (by decide) wg_878 rfl d_MO_isLeased_11 ?_
    refine lv_aload_n C.1 C.2.1 d_MO_isLeased_14 rfl (lv_at hl 0 rfl) ?_
    refine xget C hP o_MO rfl c_MO (k := 17) (v := .ref (b + 14)) (by decide) wg_894 rfl d_MO_isLeased_15 ?_
    refine lv_iload_n C.1 C.2.1 d_MO_isLeased_18 rfl (lv_at hl 1 rfl) ?_
    refine xiald C hP om_14 rfl (v := (st 14 a1.toNatClampNeg 0)) hd1 rfl d_MO_isLeased_19 ?_
    refine lv_isub C.1 C.2.1 d_MO_isLeased_20 ?_
    refine lv_sipush (v := 10000) C.1 C.2.1 d_MO_isLeased_21 (by decide) ?_
    refine lv_icmp_ge (tgt := 31) C.1 C.2.1 d_MO_isLeased_24 (by decide) (fun h2 => ?_) (fun h2 => ?_)
    · refine lv_iconst (v := 0) C.1 C.2.1 d_MO_isLeased_31 (by decide) ?_
      exact xrz C hlk hr bz_0 hP hS d_MO_isLeased_32 ⟨by rw [f_MO_isLeased, if_neg h1, if_pos h2], rfl⟩
    · refine lv_iconst (v := 1) C.1 C.2.1 d_MO_isLeased_27 (by decide) ?_
      refine lv_goto (tgt := 32) C.1 C.2.1 d_MO_isLeased_28 (by decide) ?_
      exact xrz C hlk hr bz_1 hP hS d_MO_isLeased_32 ⟨by rw [f_MO_isLeased, if_neg h1, if_neg h2], rfl⟩
