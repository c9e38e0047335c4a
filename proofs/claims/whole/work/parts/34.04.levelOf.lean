def f_MO_levelOf (st : XS) (a1 : Int32) : Int32 :=
  if (bz (st 30 a1.toNatClampNeg 0)) = 0 then (-1)
  else if (bz (st 31 a1.toNatClampNeg 0)) = 0 then (if (2000 * (st 20 a1.toNatClampNeg 0)) ≤ ((st 0 1 0) - (st 32 a1.toNatClampNeg 0)) then (if (2 * (2000 * (st 20 a1.toNatClampNeg 0))) ≤ ((st 0 1 0) - (st 32 a1.toNatClampNeg 0)) then (if (4 * (2000 * (st 20 a1.toNatClampNeg 0))) ≤ ((st 0 1 0) - (st 32 a1.toNatClampNeg 0)) then 3
        else 2)
      else 1)
    else 0)
  else (-1)
set_option maxRecDepth 100000 in
set_option maxHeartbeats 4000000 in
theorem k_MO_levelOf (l : Launch) (D : va_G) (cA : Nat → ClassId) (b : Nat) (st : XS) (a1 : Int32) (hk : vp_in a1 32) : xMi mw D cA b l y_MO_levelOf (Cond.code y_MO_levelOf b_MO_levelOf 4 (some .int)) { frames := 0, cells := 0, slots := 0, locals := 0 } st [.ref (b + 0), .int a1] (f_MO_levelOf st a1) st := by
  refine xMi_of rfl (by decide) (Nat.le_of_ble_eq_true rfl) ?_
  intro p e s m below meth c ls C hlk hr hml hl hP hS
  have hl : lv_has ls 4 [(0, .ref (b + 0)), (1, .int a1)] := hl
  refine lv_aload_n C.1 C.2.1 d_MO_levelOf_0 rfl (lv_at hl 0 rfl) ?_
  refine xget C hP o_MO rfl c_MO (k := 33) (v := .ref (b + 30)) (by decide) wg_910 rfl d_MO_levelOf_1 ?_
  refine lv_iload_n C.1 C.2.1 d_MO_levelOf_4 rfl (lv_at hl 1 rfl) ?_
  refine xzald C hP om_30 rfl (v := (bz (st 30 a1.toNatClampNeg 0))) hk rfl d_MO_levelOf_5 ?_
  refine lv_if_eq (tgt := 18) C.1 C.2.1 d_MO_levelOf_6 (by decide) (fun h1 => ?_) (fun h1 => ?_)
  · refine lv_iconst (v := (-1)) C.1 C.2.1 d_MO_levelOf_18 (by decide) ?_
    exact xri C hlk hr hP hS d_MO_levelOf_19 ⟨by rw [f_MO_levelOf, if_pos h1], rfl⟩
  · refine lv_aload_n C.1 C.2.1 d_MO_levelOf_9 rfl (lv_at hl 0 rfl) ?_
    refine xget C hP o_MO rfl c_MO (k := 34) (v := .ref (b + 31)) (by decide) wg_911 rfl d_MO_levelOf_10 ?_
    refine lv_iload_n C.1 C.2.1 d_MO_levelOf_13 rfl (lv_at hl 1 rfl) ?_
    refine xzald C hP om_31 rfl (v := (bz (st 31 a1.toNatClampNeg 0))) hk rfl d_MO_levelOf_14 ?_
    refine lv_if_eq (tgt := 20) C.1 C.2.1 d_MO_levelOf_15 (by decide) (fun h2 => ?_) (fun h2 => ?_)
    · refine lv_aload_n C.1 C.2.1 d_MO_levelOf_20 rfl (lv_at hl 0 rfl) ?_
      refine xget C hP o_MO rfl c_MO (k := 1) (v := .int (st 0 1 0)) (by decide) wg_878 rfl d_MO_levelOf_21 ?_
      refine lv_aload_n C.1 C.2.1 d_MO_levelOf_24 rfl (lv_at hl 0 rfl) ?_
      refine xget C hP o_MO rfl c_MO (k := 35) (v := .ref (b + 32)) (by decide) wg_912 rfl d_MO_levelOf_25 ?_
      refine lv_iload_n C.1 C.2.1 d_MO_levelOf_28 rfl (lv_at hl 1 rfl) ?_
      refine xiald C hP om_32 rfl (v := (st 32 a1.toNatClampNeg 0)) hk rfl d_MO_levelOf_29 ?_
      refine lv_isub C.1 C.2.1 d_MO_levelOf_30 ?_
      refine lv_istore_n C.1 C.2.1 d_MO_levelOf_31 rfl hl (by decide) rfl (fun ls hl => ?_)
      have hl : lv_has ls 4 [(2, .int ((st 0 1 0) - (st 32 a1.toNatClampNeg 0))), (0, .ref (b + 0)), (1, .int a1)] := hl
      refine lv_sipush (v := 2000) C.1 C.2.1 d_MO_levelOf_32 (by decide) ?_
      refine lv_aload_n C.1 C.2.1 d_MO_levelOf_35 rfl (lv_at hl 1 rfl) ?_
      refine xget C hP o_MO rfl c_MO (k := 23) (v := .ref (b + 20)) (by decide) wg_900 rfl d_MO_levelOf_36 ?_
      refine lv_iload_n C.1 C.2.1 d_MO_levelOf_39 rfl (lv_at hl 2 rfl) ?_
      refine xiald C hP om_20 rfl (v := (st 20 a1.toNatClampNeg 0)) hk rfl d_MO_levelOf_40 ?_
      refine lv_imul C.1 C.2.1 d_MO_levelOf_41 ?_
      refine lv_istore_n C.1 C.2.1 d_MO_levelOf_42 rfl hl (by decide) rfl (fun ls hl => ?_)
      have hl : lv_has ls 4 [(3, .int (2000 * (st 20 a1.toNatClampNeg 0))), (2, .int ((st 0 1 0) - (st 32 a1.toNatClampNeg 0))), (0, .ref (b + 0)), (1, .int a1)] := hl
      refine lv_iload_n C.1 C.2.1 d_MO_levelOf_43 rfl (lv_at hl 1 rfl) ?_
      refine lv_iload_n C.1 C.2.1 d_MO_levelOf_44 rfl (lv_at hl 0 rfl) ?_
      refine lv_icmp_ge (tgt := 52) C.1 C.2.1 d_MO_levelOf_45 (by decide) (fun h3 => ?_) (fun h3 => ?_)
      · refine lv_iload_n C.1 C.2.1 d_MO_levelOf_52 rfl (lv_at hl 1 rfl) ?_
        refine lv_iconst (v := 2) C.1 C.2.1 d_MO_levelOf_53 (by decide) ?_
        refine lv_iload_n C.1 C.2.1 d_MO_levelOf_54 rfl (lv_at hl 0 rfl) ?_
        refine lv_imul C.1 C.2.1 d_MO_levelOf_55 ?_
        refine lv_icmp_ge (tgt := 63) C.1 C.2.1 d_MO_levelOf_56 (by decide) (fun h4 => ?_) (fun h4 => ?_)
        · refine lv_iload_n C.1 C.2.1 d_MO_levelOf_63 rfl (lv_at hl 1 rfl) ?_
          refine lv_iconst (v := 4) C.1 C.2.1 d_MO_levelOf_64 (by decide) ?_
          refine lv_iload_n C.1 C.2.1 d_MO_levelOf_65 rfl (lv_at hl 0 rfl) ?_
          refine lv_imul C.1 C.2.1 d_MO_levelOf_66 ?_
          refine lv_icmp_ge (tgt := 74) C.1 C.2.1 d_MO_levelOf_67 (by decide) (fun h5 => ?_) (fun h5 => ?_)
          · refine lv_iconst (v := 3) C.1 C.2.1 d_MO_levelOf_74 (by decide) ?_
            exact xri C hlk hr hP hS d_MO_levelOf_75 ⟨by rw [f_MO_levelOf, if_neg h1, if_pos h2, if_pos h3, if_pos h4, if_pos h5], rfl⟩
          · refine lv_iconst (v := 2) C.1 C.2.1 d_MO_levelOf_70 (by decide) ?_
            refine lv_goto (tgt := 75) C.1 C.2.1 d_MO_levelOf_71 (by decide) ?_
            exact xri C hlk hr hP hS d_MO_levelOf_75 ⟨by rw [f_MO_levelOf, if_neg h1, if_pos h2, if_pos h3, if_pos h4, if_neg h5], rfl⟩
        · refine lv_iconst (v := 1) C.1 C.2.1 d_MO_levelOf_59 (by decide) ?_
          refine lv_goto (tgt := 75) C.1 C.2.1 d_MO_levelOf_60 (by decide) ?_
          exact xri C hlk hr hP hS d_MO_levelOf_75 ⟨by rw [f_MO_levelOf, if_neg h1, if_pos h2, if_pos h3, if_neg h4], rfl⟩
      · refine lv_iconst (v := 0) C.1 C.2.1 d_MO_levelOf_48 (by decide) ?_
        refine lv_goto (tgt := 75) C.1 C.2.1 d_MO_levelOf_49 (by decide) ?_
        exact xri C hlk hr hP hS d_MO_levelOf_75 ⟨by rw [f_MO_levelOf, if_neg h1, if_pos h2, if_neg h3], rfl⟩
    · refine lv_iconst (v := (-1)) C.1 C.2.1 d_MO_levelOf_18 (by decide) ?_
      exact xri C hlk hr hP hS d_MO_levelOf_19 ⟨by rw [f_MO_levelOf, if_neg h1, if_neg h2], rfl⟩
