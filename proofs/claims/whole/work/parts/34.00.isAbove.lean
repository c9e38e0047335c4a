def f_MO_isAbove (st : XS) (a1 : Int32) : Int32 :=
  if (bz (st 23 a1.toNatClampNeg 0)) = 0 then 0
  else if (st 25 a1.toNatClampNeg 0) ≤ (st 21 a1.toNatClampNeg 0) then 0
  else 1
set_option maxRecDepth 100000 in
set_option maxHeartbeats 4000000 in
theorem z_MO_isAbove {st : XS} {a1 : Int32} : bz (f_MO_isAbove st a1) = (f_MO_isAbove st a1) := by
  unfold f_MO_isAbove
  repeat' split
  all_goals first | with_reducible exact bz_0 | with_reducible exact bz_1 | with_reducible exact bz_bz _
set_option maxRecDepth 100000 in
set_option maxHeartbeats 4000000 in
theorem k_MO_isAbove (l : Launch) (D : va_G) (cA : Nat → ClassId) (b : Nat) (st : XS) (a1 : Int32) (hk : vp_in a1 32) : xMi mw D cA b l y_MO_isAbove (Cond.code y_MO_isAbove b_MO_isAbove 2 (some .boolean)) { frames := 0, cells := 0, slots := 0, locals := 0 } st [.ref (b + 0), .int a1] (f_MO_isAbove st a1) st := by
  refine xMi_of rfl (by decide) (Nat.le_of_ble_eq_true rfl) ?_
  intro p e s m below meth c ls C hlk hr hml hl hP hS
  have hl : lv_has ls 2 [(0, .ref (b + 0)), (1, .int a1)] := hl
  refine lv_aload_n C.1 C.2.1 d_MO_isAbove_0 rfl (lv_at hl 0 rfl) ?_
  refine xget C hP o_MO rfl c_MO (k := 26) (v := .ref (b + 23)) (by decide) wg_903 rfl d_MO_isAbove_1 ?_
  refine lv_iload_n C.1 C.2.1 d_MO_isAbove_4 rfl (lv_at hl 1 rfl) ?_
  refine xzald C hP om_23 rfl (v := (bz (st 23 a1.toNatClampNeg 0))) hk rfl d_MO_isAbove_5 ?_
  refine lv_if_eq (tgt := 28) C.1 C.2.1 d_MO_isAbove_6 (by decide) (fun h1 => ?_) (fun h1 => ?_)
  · refine lv_iconst (v := 0) C.1 C.2.1 d_MO_isAbove_28 (by decide) ?_
    exact xrz C hlk hr bz_0 hP hS d_MO_isAbove_29 ⟨by rw [f_MO_isAbove, if_pos h1], rfl⟩
  · refine lv_aload_n C.1 C.2.1 d_MO_isAbove_9 rfl (lv_at hl 0 rfl) ?_
    refine xget C hP o_MO rfl c_MO (k := 28) (v := .ref (b + 25)) (by decide) wg_905 rfl d_MO_isAbove_10 ?_
    refine lv_iload_n C.1 C.2.1 d_MO_isAbove_13 rfl (lv_at hl 1 rfl) ?_
    refine xiald C hP om_25 rfl (v := (st 25 a1.toNatClampNeg 0)) hk rfl d_MO_isAbove_14 ?_
    refine lv_aload_n C.1 C.2.1 d_MO_isAbove_15 rfl (lv_at hl 0 rfl) ?_
    refine xget C hP o_MO rfl c_MO (k := 24) (v := .ref (b + 21)) (by decide) wg_901 rfl d_MO_isAbove_16 ?_
    refine lv_iload_n C.1 C.2.1 d_MO_isAbove_19 rfl (lv_at hl 1 rfl) ?_
    refine xiald C hP om_21 rfl (v := (st 21 a1.toNatClampNeg 0)) hk rfl d_MO_isAbove_20 ?_
    refine lv_icmp_le (tgt := 28) C.1 C.2.1 d_MO_isAbove_21 (by decide) (fun h2 => ?_) (fun h2 => ?_)
    · refine lv_iconst (v := 0) C.1 C.2.1 d_MO_isAbove_28 (by decide) ?_
      exact xrz C hlk hr bz_0 hP hS d_MO_isAbove_29 ⟨by rw [f_MO_isAbove, if_neg h1, if_pos h2], rfl⟩
    · refine lv_iconst (v := 1) C.1 C.2.1 d_MO_isAbove_24 (by decide) ?_
      refine lv_goto (tgt := 29) C.1 C.2.1 d_MO_isAbove_25 (by decide) ?_
      exact xrz C hlk hr bz_1 hP hS d_MO_isAbove_29 ⟨by rw [f_MO_isAbove, if_neg h1, if_neg h2], rfl⟩
