def f_BN_isSettable (st : XS) (a1 : Int32) : Int32 :=
  if (f_BN_isSealed st a1) = 0 then 0
  else if (bz (st 10 1 a1.toNatClampNeg)) = 0 then 0
  else 1
set_option maxRecDepth 100000 in
set_option maxHeartbeats 4000000 in
theorem z_BN_isSettable {st : XS} {a1 : Int32} : bz (f_BN_isSettable st a1) = (f_BN_isSettable st a1) := by
  unfold f_BN_isSettable
  repeat' split
  all_goals first | with_reducible exact bz_0 | with_reducible exact bz_1 | with_reducible exact bz_bz _ | with_reducible exact z_BN_isSealed
set_option maxRecDepth 100000 in
set_option maxHeartbeats 4000000 in
theorem k_BN_isSettable (l : Launch) (D : va_G) (cA : Nat → ClassId) (b : Nat) (st : XS) (a1 : Int32) : xMi cw D cA b l y_BN_isSettable (Cond.code y_BN_isSettable b_BN_isSettable 2 (some .boolean)) { frames := 2, cells := 0, slots := 0, locals := 41 } st [.ref (b + 0), .int a1] (f_BN_isSettable st a1) st := by
  refine xMi_of rfl (by decide) (Nat.le_of_ble_eq_true rfl) ?_
  intro p e s m below meth c ls C hlk hr hml hl hP hS
  have hl : lv_has ls 2 [(0, .ref (b + 0)), (1, .int a1)] := hl
  refine lv_aload_n C.1 C.2.1 d_BN_isSettable_0 rfl (lv_at hl 0 rfl) ?_
  refine lv_iload_n C.1 C.2.1 d_BN_isSettable_1 rfl (lv_at hl 1 rfl) ?_
  refine xcVi (rest := []) C hml hl.1 (k_BN_isSealed l D cA b st a1) q_BN_isSealed rfl rfl wg_467 wg_469 ws_6 ⟨Nat.le_of_ble_eq_true rfl, Nat.le_of_ble_eq_true rfl⟩ hP hS o_BN rfl c_BN rfl (Nat.le_of_ble_eq_true rfl) d_BN_isSettable_2 rfl (fun H locs hP hS => ?_)
  refine lv_if_eq (tgt := 27) C.1 C.2.1 d_BN_isSettable_5 (by decide) (fun h1 => ?_) (fun h1 => ?_)
  · refine lv_iconst (v := 0) C.1 C.2.1 d_BN_isSettable_27 (by decide) ?_
    exact xrz C hlk hr bz_0 hP hS d_BN_isSettable_28 ⟨by rw [f_BN_isSettable, if_pos h1], rfl⟩
  · refine lv_aload_n C.1 C.2.1 d_BN_isSettable_8 rfl (lv_at hl 0 rfl) ?_
    refine xget C hP o_BN rfl c_BN (k := 0) (v := .ref (b + 1)) (by decide) wg_378 rfl d_BN_isSettable_9 ?_
    refine lv_iload_n C.1 C.2.1 d_BN_isSettable_12 rfl (lv_at hl 1 rfl) ?_
    refine xaald C hP o_da rfl (E := R_DE) rfl (v := b + (73 + 20 * a1.toNatClampNeg)) (vd_isSealed h1) rfl d_BN_isSettable_13 ?_
    refine xgetN C hP (o_DE (xin_lt (vd_isSealed h1))) rfl c_DE (k := 1) (v := .ref (b + (75 + 20 * a1.toNatClampNeg))) (by decide) wn_283 rfl d_BN_isSettable_14 ?_
    refine xgetN C hP (o_SE (xin_lt (vd_isSealed h1))) rfl c_SE (k := 1) (v := .int (bz (st 10 1 a1.toNatClampNeg))) (by decide) wn_148 rfl d_BN_isSettable_17 ?_
    refine lv_if_eq (tgt := 27) C.1 C.2.1 d_BN_isSettable_20 (by decide) (fun h2 => ?_) (fun h2 => ?_)
    · refine lv_iconst (v := 0) C.1 C.2.1 d_BN_isSettable_27 (by decide) ?_
      exact xrz C hlk hr bz_0 hP hS d_BN_isSettable_28 ⟨by rw [f_BN_isSettable, if_neg h1, if_pos h2], rfl⟩
    · refine lv_iconst (v := 1) C.1 C.2.1 d_BN_isSettable_23 (by decide) ?_
      refine lv_goto (tgt := 28) C.1 C.2.1 d_BN_isSettable_24 (by decide) ?_
      exact xrz C hlk hr bz_1 hP hS d_BN_isSettable_28 ⟨by rw [f_BN_isSettable, if_neg h1, if_neg h2], rfl⟩

theorem vd_isSettable {st : XS} {x : Int32} (h : ¬ f_BN_isSettable st x = 0) : vp_in x 8 := by
  unfold f_BN_isSettable at h
  split at h
  · exact absurd rfl h
  · rename_i h1; exact vd_isSealed h1
