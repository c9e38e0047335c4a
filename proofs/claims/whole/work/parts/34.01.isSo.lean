def f_MO_isSo (st : XS) (a1 : Int32) : Int32 :=
  if (st 20 a1.toNatClampNeg 0) ≤ 0 then 0
  else if (f_MO_isAbove st a1) = 0 then 0
  else if (st 0 1 0) < (st 29 a1.toNatClampNeg 0) then 0
  else 1
set_option maxRecDepth 100000 in
set_option maxHeartbeats 4000000 in
theorem z_MO_isSo {st : XS} {a1 : Int32} : bz (f_MO_isSo st a1) = (f_MO_isSo st a1) := by
  unfold f_MO_isSo
  repeat' split
  all_goals first | with_reducible exact bz_0 | with_reducible exact bz_1 | with_reducible exact bz_bz _ | with_reducible exact z_MO_isAbove
set_option maxRecDepth 100000 in
set_option maxHeartbeats 4000000 in
theorem k_MO_isSo (l : Launch) (D : va_G) (cA : Nat → ClassId) (b : Nat) (st : XS) (a1 : Int32) (hk : vp_in a1 32) : xMi mw D cA b l y_MO_isSo (Cond.code y_MO_isSo b_MO_isSo 2 (some .boolean)) { frames := 1, cells := 0, slots := 0, locals := 21 } st [.ref (b + 0), .int a1] (f_MO_isSo st a1) st := by
  refine xMi_of rfl (by decide) (Nat.le_of_ble_eq_true rfl) ?_
  intro p e s m below meth c ls C hlk hr hml hl hP hS
  have hl : lv_has ls 2 [(0, .ref (b + 0)), (1, .int a1)] := hl
  refine lv_aload_n C.1 C.2.1 d_MO_isSo_0 rfl (lv_at hl 0 rfl) ?_
  refine xget C hP o_MO rfl c_MO (k := 23) (v := .ref (b + 20)) (by decide) wg_900 rfl d_MO_isSo_1 ?_
  refine lv_iload_n C.1 C.2.1 d_MO_isSo_4 rfl (lv_at hl 1 rfl) ?_
  refine xiald C hP om_20 rfl (v := (st 20 a1.toNatClampNeg 0)) hk rfl d_MO_isSo_5 ?_
  refine lv_if_le (tgt := 34) C.1 C.2.1 d_MO_isSo_6 (by decide) (fun h1 => ?_) (fun h1 => ?_)
  · refine lv_iconst (v := 0) C.1 C.2.1 d_MO_isSo_34 (by decide) ?_
    exact xrz C hlk hr bz_0 hP hS d_MO_isSo_35 ⟨by rw [f_MO_isSo, if_pos h1], rfl⟩
  · refine lv_aload_n C.1 C.2.1 d_MO_isSo_9 rfl (lv_at hl 0 rfl) ?_
    refine lv_iload_n C.1 C.2.1 d_MO_isSo_10 rfl (lv_at hl 1 rfl) ?_
    refine xcVi (rest := []) C hml hl.1 (k_MO_isAbove l D cA b st a1 hk) q_MO_isAbove rfl rfl wg_1127 wg_1129 ws_58 ⟨Nat.le_of_ble_eq_true rfl, Nat.le_of_ble_eq_true rfl⟩ hP hS o_MO rfl c_MO rfl (Nat.le_of_ble_eq_true rfl) d_MO_isSo_11 rfl (fun H locs hP hS => ?_)
    refine lv_if_eq (tgt := 34) C.1 C.2.1 d_MO_isSo_14 (by decide) (fun h2 => ?_) (fun h2 => ?_)
    · refine lv_iconst (v := 0) C.1 C.2.1 d_MO_isSo_34 (by decide) ?_
      exact xrz C hlk hr bz_0 hP hS d_MO_isSo_35 ⟨by rw [f_MO_isSo, if_neg h1, if_pos h2], rfl⟩
    · refine lv_aload_n C.1 C.2.1 d_MO_isSo_17 rfl (lv_at hl 0 rfl) ?_
      refine xget C hP o_MO rfl c_MO (k := 1) (v := .int (st 0 1 0)) (by decide) wg_878 rfl d_MO_isSo_18 ?_
      refine lv_aload_n C.1 C.2.1 d_MO_isSo_21 rfl (lv_at hl 0 rfl) ?_
      refine xget C hP o_MO rfl c_MO (k := 32) (v := .ref (b + 29)) (by decide) wg_909 rfl d_MO_isSo_22 ?_
      refine lv_iload_n C.1 C.2.1 d_MO_isSo_25 rfl (lv_at hl 1 rfl) ?_
      refine xiald C hP om_29 rfl (v := (st 29 a1.toNatClampNeg 0)) hk rfl d_MO_isSo_26 ?_
      refine lv_icmp_lt (tgt := 34) C.1 C.2.1 d_MO_isSo_27 (by decide) (fun h3 => ?_) (fun h3 => ?_)
      · refine lv_iconst (v := 0) C.1 C.2.1 d_MO_isSo_34 (by decide) ?_
        exact xrz C hlk hr bz_0 hP hS d_MO_isSo_35 ⟨by rw [f_MO_isSo, if_neg h1, if_neg h2, if_pos h3], rfl⟩
      · refine lv_iconst (v := 1) C.1 C.2.1 d_MO_isSo_30 (by decide) ?_
        refine lv_goto (tgt := 35) C.1 C.2.1 d_MO_isSo_31 (by decide) ?_
        exact xrz C hlk hr bz_1 hP hS d_MO_isSo_35 ⟨by rw [f_MO_isSo, if_neg h1, if_neg h2, if_neg h3], rfl⟩
