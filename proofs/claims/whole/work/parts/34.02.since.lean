def f_MO_since (st : XS) (a1 : Int32) : Int32 :=
  if (st 28 a1.toNatClampNeg 0) ≤ (st 29 a1.toNatClampNeg 0) then (st 29 a1.toNatClampNeg 0)
  else (st 28 a1.toNatClampNeg 0)
set_option maxRecDepth 100000 in
set_option maxHeartbeats 4000000 in
theorem k_MO_since (l : Launch) (D : va_G) (cA : Nat → ClassId) (b : Nat) (st : XS) (a1 : Int32) (hk : vp_in a1 32) : xMi mw D cA b l y_MO_since (Cond.code y_MO_since b_MO_since 2 (some .int)) { frames := 0, cells := 0, slots := 0, locals := 0 } st [.ref (b + 0), .int a1] (f_MO_since st a1) st := by
  refine xMi_of rfl (by decide) (Nat.le_of_ble_eq_true rfl) ?_
  intro p e s m below meth c ls C hlk hr hml hl hP hS
  have hl : lv_has ls 2 [(0, .ref (b + 0)), (1, .int a1)] := hl
  refine lv_aload_n C.1 C.2.1 d_MO_since_0 rfl (lv_at hl 0 rfl) ?_
  refine xget C hP o_MO rfl c_MO (k := 31) (v := .ref (b + 28)) (by decide) wg_908 rfl d_MO_since_1 ?_
  refine lv_iload_n C.1 C.2.1 d_MO_since_4 rfl (lv_at hl 1 rfl) ?_
  refine xiald C hP om_28 rfl (v := (st 28 a1.toNatClampNeg 0)) hk rfl d_MO_since_5 ?_
  refine lv_aload_n C.1 C.2.1 d_MO_since_6 rfl (lv_at hl 0 rfl) ?_
  refine xget C hP o_MO rfl c_MO (k := 32) (v := .ref (b + 29)) (by decide) wg_909 rfl d_MO_since_7 ?_
  refine lv_iload_n C.1 C.2.1 d_MO_since_10 rfl (lv_at hl 1 rfl) ?_
  refine xiald C hP om_29 rfl (v := (st 29 a1.toNatClampNeg 0)) hk rfl d_MO_since_11 ?_
  refine lv_icmp_le (tgt := 24) C.1 C.2.1 d_MO_since_12 (by decide) (fun h1 => ?_) (fun h1 => ?_)
  · refine lv_aload_n C.1 C.2.1 d_MO_since_24 rfl (lv_at hl 0 rfl) ?_
    refine xget C hP o_MO rfl c_MO (k := 32) (v := .ref (b + 29)) (by decide) wg_909 rfl d_MO_since_25 ?_
    refine lv_iload_n C.1 C.2.1 d_MO_since_28 rfl (lv_at hl 1 rfl) ?_
    refine xiald C hP om_29 rfl (v := (st 29 a1.toNatClampNeg 0)) hk rfl d_MO_since_29 ?_
    exact xri C hlk hr hP hS d_MO_since_30 ⟨by rw [f_MO_since, if_pos h1], rfl⟩
  · refine lv_aload_n C.1 C.2.1 d_MO_since_15 rfl (lv_at hl 0 rfl) ?_
    refine xget C hP o_MO rfl c_MO (k := 31) (v := .ref (b + 28)) (by decide) wg_908 rfl d_MO_since_16 ?_
    refine lv_iload_n C.1 C.2.1 d_MO_since_19 rfl (lv_at hl 1 rfl) ?_
    refine xiald C hP om_28 rfl (v := (st 28 a1.toNatClampNeg 0)) hk rfl d_MO_since_20 ?_
    refine lv_goto (tgt := 30) C.1 C.2.1 d_MO_since_21 (by decide) ?_
    exact xri C hlk hr hP hS d_MO_since_30 ⟨by rw [f_MO_since, if_neg h1], rfl⟩
