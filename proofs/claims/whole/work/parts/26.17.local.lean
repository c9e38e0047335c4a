def f_BN_local (st : XS) (a1 : Int32) (a2 : Int32) (a3 : Int32) : XS × Int32 :=
  if (f_BN_isSettable st a1) = 0 then (st, 0)
  else if a2 = (-1) then ((xu st 10 3 a1.toNatClampNeg a3), 1)
  else if (bz (st 10 3 a1.toNatClampNeg)) = 0 then (if (f_RA_fits st (200 + a1.toNatClampNeg) a2) = 0 then (st, 0)
    else ((xu st 10 2 a1.toNatClampNeg a2), 1))
  else (st, 0)
set_option maxRecDepth 100000 in
set_option maxHeartbeats 4000000 in
theorem z_BN_local {st : XS} {a1 : Int32} {a2 : Int32} {a3 : Int32} : bz (f_BN_local st a1 a2 a3).2 = (f_BN_local st a1 a2 a3).2 := by
  unfold f_BN_local
  repeat' split
  all_goals first | with_reducible exact bz_0 | with_reducible exact bz_1 | with_reducible exact bz_bz _ | with_reducible exact z_BN_isSettable | with_reducible exact z_RA_fits
set_option maxRecDepth 100000 in
set_option maxHeartbeats 4000000 in
theorem fr_BN_local {st : XS} {a1 : Int32} {a2 : Int32} {a3 : Int32} {a' k' i' : Nat} (h : (a', k') ∉ ([(10, 2), (10, 3)] : List (Nat × Nat))) (h2 : a' ∉ ([] : List Nat)) : (f_BN_local st a1 a2 a3).1 a' k' i' = st a' k' i' := by
  unfold f_BN_local
  repeat' split
  all_goals (try dsimp only)
  all_goals (repeat (first | with_reducible rfl | rw [xu_f (fun e => h (by rw [e]; decide))]))
theorem p_BN_local {st : XS} {a1 : Int32} {a2 : Int32} {a3 : Int32} (h : pok st) : pok (f_BN_local st a1 a2 a3).1 := pok_of h (fr_BN_local (by decide) (by decide)) (fun _ => fr_BN_local (by simp) (by decide))
set_option maxRecDepth 100000 in
set_option maxHeartbeats 4000000 in
theorem k_BN_local (l : Launch) (D : va_G) (cA : Nat → ClassId) (b : Nat) (st : XS) (a1 : Int32) (a2 : Int32) (a3 : Int32) (hz3 : bz a3 = a3) : xMi cw D cA b l y_BN_local (Cond.code y_BN_local b_BN_local 5 (some .boolean)) { frames := 3, cells := 0, slots := 0, locals := 62 } st [.ref (b + 0), .int a1, .int a2, .int a3] (f_BN_local st a1 a2 a3).2 (f_BN_local st a1 a2 a3).1 := by
  refine xMi_of rfl (by decide) (Nat.le_of_ble_eq_true rfl) ?_
  intro p e s m below meth c ls C hlk hr hml hl hP hS
  have hl : lv_has ls 5 [(0, .ref (b + 0)), (1, .int a1), (2, .int a2), (3, .int a3)] := hl
  refine lv_aload_n C.1 C.2.1 d_BN_local_0 rfl (lv_at hl 0 rfl) ?_
  refine lv_iload_n C.1 C.2.1 d_BN_local_1 rfl (lv_at hl 1 rfl) ?_
  refine xcVi (rest := []) C hml hl.1 (k_BN_isSettable l D cA b st a1) q_BN_isSettable rfl rfl wg_601 wg_603 ws_30 ⟨Nat.le_of_ble_eq_true rfl, Nat.le_of_ble_eq_true rfl⟩ hP hS o_BN rfl c_BN rfl (Nat.le_of_ble_eq_true rfl) d_BN_local_2 rfl (fun H locs hP hS => ?_)
  refine lv_if_ne (tgt := 10) C.1 C.2.1 d_BN_local_5 (by decide) (fun h1 => ?_) (fun h1 => ?_)
  · refine lv_aload_n C.1 C.2.1 d_BN_local_10 rfl (lv_at hl 0 rfl) ?_
    refine xget C hP o_BN rfl c_BN (k := 0) (v := .ref (b + 1)) (by decide) wg_378 rfl d_BN_local_11 ?_
    refine lv_iload_n C.1 C.2.1 d_BN_local_14 rfl (lv_at hl 1 rfl) ?_
    refine xaald C hP o_da rfl (E := R_DE) rfl (v := b + (73 + 20 * a1.toNatClampNeg)) (vd_isSettable h1) rfl d_BN_local_15 ?_
    refine xgetN C hP (o_DE (xin_lt (vd_isSettable h1))) rfl c_DE (k := 1) (v := .ref (b + (75 + 20 * a1.toNatClampNeg))) (by decide) wn_283 rfl d_BN_local_16 ?_
    refine lv_astore C.1 C.2.1 d_BN_local_19 hl (by decide) rfl (fun ls hl => ?_)
    have hl : lv_has ls 5 [(4, .ref (b + (75 + 20 * a1.toNatClampNeg))), (0, .ref (b + 0)), (1, .int a1), (2, .int a2), (3, .int a3)] := hl
    refine lv_iload_n C.1 C.2.1 d_BN_local_21 rfl (lv_at hl 3 rfl) ?_
    refine lv_iconst (v := (-1)) C.1 C.2.1 d_BN_local_22 (by decide) ?_
    refine lv_icmp_ne (tgt := 34) C.1 C.2.1 d_BN_local_23 (by decide) (fun h2 => ?_) (fun h2 => ?_)
    · refine lv_aload C.1 C.2.1 d_BN_local_34 (lv_at hl 0 rfl) ?_
      refine xgetN C hP (o_SE (xin_lt (vd_isSettable h1))) rfl c_SE (k := 3) (v := .int (bz (st 10 3 a1.toNatClampNeg))) (by decide) wn_152 rfl d_BN_local_36 ?_
      refine lv_if_ne (tgt := 54) C.1 C.2.1 d_BN_local_39 (by decide) (fun h3 => ?_) (fun h3 => ?_)
      · refine lv_iconst (v := 0) C.1 C.2.1 d_BN_local_54 (by decide) ?_
        exact xrz C hlk hr bz_0 hP hS d_BN_local_55 ⟨by rw [f_BN_local, if_neg h1, if_neg h2, if_neg h3], by rw [f_BN_local, if_neg h1, if_neg h2, if_neg h3]⟩
      · refine lv_aload C.1 C.2.1 d_BN_local_42 (lv_at hl 0 rfl) ?_
        refine xgetN C hP (o_SE (xin_lt (vd_isSettable h1))) rfl c_SE (k := 0) (v := .ref (b + (76 + 20 * a1.toNatClampNeg))) (by decide) wn_145 rfl d_BN_local_44 ?_
        refine lv_iload_n C.1 C.2.1 d_BN_local_47 rfl (lv_at hl 3 rfl) ?_
        refine xcVNi (rest := []) C hml hl.1 (k_RA_fits l D cA b st (76 + 20 * a1.toNatClampNeg) (200 + a1.toNatClampNeg) (o_RS (xin_lt (vd_isSettable h1))) a2) q_RA_fits rfl rfl wn_487 wg_489 ws_8 ⟨Nat.le_of_ble_eq_true rfl, Nat.le_of_ble_eq_true rfl⟩ hP hS (o_RS (xin_lt (vd_isSettable h1))) rfl c_RA rfl (Nat.le_of_ble_eq_true rfl) d_BN_local_48 rfl (fun H locs hP hS => ?_)
        refine lv_if_ne (tgt := 56) C.1 C.2.1 d_BN_local_51 (by decide) (fun h4 => ?_) (fun h4 => ?_)
        · refine lv_aload C.1 C.2.1 d_BN_local_56 (lv_at hl 0 rfl) ?_
          refine lv_iload_n C.1 C.2.1 d_BN_local_58 rfl (lv_at hl 3 rfl) ?_
          refine xputN cw_inj C hP hS (o_SE (xin_lt (vd_isSettable h1))) rfl c_SE (k := 2) (x := a2) (by decide) wn_150 rfl rfl rfl rfl d_BN_local_59 (fun H locs hP hS => ?_)
          refine lv_iconst (v := 1) C.1 C.2.1 d_BN_local_62 (by decide) ?_
          exact xrz C hlk hr bz_1 hP hS d_BN_local_63 ⟨by rw [f_BN_local, if_neg h1, if_neg h2, if_pos h3, if_neg h4], by rw [f_BN_local, if_neg h1, if_neg h2, if_pos h3, if_neg h4]⟩
        · refine lv_iconst (v := 0) C.1 C.2.1 d_BN_local_54 (by decide) ?_
          exact xrz C hlk hr bz_0 hP hS d_BN_local_55 ⟨by rw [f_BN_local, if_neg h1, if_neg h2, if_pos h3, if_pos h4], by rw [f_BN_local, if_neg h1, if_neg h2, if_pos h3, if_pos h4]⟩
    · refine lv_aload C.1 C.2.1 d_BN_local_26 (lv_at hl 0 rfl) ?_
      refine lv_iload_n C.1 C.2.1 d_BN_local_28 rfl (lv_at hl 4 rfl) ?_
      refine xputNz cw_inj C hP hS (o_SE (xin_lt (vd_isSettable h1))) rfl c_SE (k := 3) (x := a3) (by decide) wn_152 rfl hz3 rfl rfl d_BN_local_29 (fun H locs hP hS => ?_)
      refine lv_iconst (v := 1) C.1 C.2.1 d_BN_local_32 (by decide) ?_
      exact xrz C hlk hr bz_1 hP hS d_BN_local_33 ⟨by rw [f_BN_local, if_neg h1, if_pos h2], by rw [f_BN_local, if_neg h1, if_pos h2]⟩
  · refine lv_iconst (v := 0) C.1 C.2.1 d_BN_local_8 (by decide) ?_
    exact xrz C hlk hr bz_0 hP hS d_BN_local_9 ⟨by rw [f_BN_local, if_pos h1], by rw [f_BN_local, if_pos h1]⟩
