def f_BN_lease (st : XS) (a1 : Int32) (a2 : Int32) : XS × Int32 :=
  if (f_BN_isController a1) = 0 then (st, 0)
  else if (f_BN_isSettable st a2) = 0 then (st, 0)
  else if (f_SE_holderAt st a2.toNatClampNeg (st 0 8 0)) = (-1) then ((xu (xu st 10 4 a2.toNatClampNeg a1) 10 5 a2.toNatClampNeg (st 0 8 0)), 1)
  else if (f_SE_holderAt st a2.toNatClampNeg (st 0 8 0)) = a1 then ((xu (xu st 10 4 a2.toNatClampNeg a1) 10 5 a2.toNatClampNeg (st 0 8 0)), 1)
  else (st, 0)
set_option maxRecDepth 100000 in
set_option maxHeartbeats 4000000 in
theorem z_BN_lease {st : XS} {a1 : Int32} {a2 : Int32} : bz (f_BN_lease st a1 a2).2 = (f_BN_lease st a1 a2).2 := by
  unfold f_BN_lease
  repeat' split
  all_goals first | with_reducible exact bz_0 | with_reducible exact bz_1 | with_reducible exact bz_bz _ | with_reducible exact z_BN_isController | with_reducible exact z_BN_isSettable
set_option maxRecDepth 100000 in
set_option maxHeartbeats 4000000 in
theorem fr_BN_lease {st : XS} {a1 : Int32} {a2 : Int32} {a' k' i' : Nat} (h : (a', k') ∉ ([(10, 4), (10, 5)] : List (Nat × Nat))) (h2 : a' ∉ ([] : List Nat)) : (f_BN_lease st a1 a2).1 a' k' i' = st a' k' i' := by
  unfold f_BN_lease
  repeat' split
  all_goals (try dsimp only)
  all_goals (repeat (first | with_reducible rfl | rw [xu_f (fun e => h (by rw [e]; decide))]))
theorem p_BN_lease {st : XS} {a1 : Int32} {a2 : Int32} (h : pok st) : pok (f_BN_lease st a1 a2).1 := pok_of h (fr_BN_lease (by decide) (by decide)) (fun _ => fr_BN_lease (by simp) (by decide))
set_option maxRecDepth 100000 in
set_option maxHeartbeats 4000000 in
theorem k_BN_lease (l : Launch) (D : va_G) (cA : Nat → ClassId) (b : Nat) (st : XS) (a1 : Int32) (a2 : Int32) : xMi cw D cA b l y_BN_lease (Cond.code y_BN_lease b_BN_lease 5 (some .boolean)) { frames := 3, cells := 0, slots := 0, locals := 62 } st [.ref (b + 0), .int a1, .int a2] (f_BN_lease st a1 a2).2 (f_BN_lease st a1 a2).1 := by
  refine xMi_of rfl (by decide) (Nat.le_of_ble_eq_true rfl) ?_
  intro p e s m below meth c ls C hlk hr hml hl hP hS
  have hl : lv_has ls 5 [(0, .ref (b + 0)), (1, .int a1), (2, .int a2)] := hl
  refine lv_iload_n C.1 C.2.1 d_BN_lease_0 rfl (lv_at hl 1 rfl) ?_
  refine xcSi (rest := []) C hml hl.1 (k_BN_isController l D cA b st a1) q_BN_isController rfl rfl wg_598 wg_599 ⟨Nat.le_of_ble_eq_true rfl, Nat.le_of_ble_eq_true rfl⟩ hP hS rfl (Nat.le_of_ble_eq_true rfl) d_BN_lease_1 rfl (fun H locs hP hS => ?_)
  refine lv_if_eq (tgt := 15) C.1 C.2.1 d_BN_lease_4 (by decide) (fun h1 => ?_) (fun h1 => ?_)
  · refine lv_iconst (v := 0) C.1 C.2.1 d_BN_lease_15 (by decide) ?_
    exact xrz C hlk hr bz_0 hP hS d_BN_lease_16 ⟨by rw [f_BN_lease, if_pos h1], by rw [f_BN_lease, if_pos h1]⟩
  · refine lv_aload_n C.1 C.2.1 d_BN_lease_7 rfl (lv_at hl 0 rfl) ?_
    refine lv_iload_n C.1 C.2.1 d_BN_lease_8 rfl (lv_at hl 2 rfl) ?_
    refine xcVi (rest := []) C hml hl.1 (k_BN_isSettable l D cA b st a2) q_BN_isSettable rfl rfl wg_601 wg_603 ws_30 ⟨Nat.le_of_ble_eq_true rfl, Nat.le_of_ble_eq_true rfl⟩ hP hS o_BN rfl c_BN rfl (Nat.le_of_ble_eq_true rfl) d_BN_lease_9 rfl (fun H locs hP hS => ?_)
    refine lv_if_ne (tgt := 17) C.1 C.2.1 d_BN_lease_12 (by decide) (fun h2 => ?_) (fun h2 => ?_)
    · refine lv_aload_n C.1 C.2.1 d_BN_lease_17 rfl (lv_at hl 0 rfl) ?_
      refine xget C hP o_BN rfl c_BN (k := 0) (v := .ref (b + 1)) (by decide) wg_378 rfl d_BN_lease_18 ?_
      refine lv_iload_n C.1 C.2.1 d_BN_lease_21 rfl (lv_at hl 2 rfl) ?_
      refine xaald C hP o_da rfl (E := R_DE) rfl (v := b + (73 + 20 * a2.toNatClampNeg)) (vd_isSettable h2) rfl d_BN_lease_22 ?_
      refine xgetN C hP (o_DE (xin_lt (vd_isSettable h2))) rfl c_DE (k := 1) (v := .ref (b + (75 + 20 * a2.toNatClampNeg))) (by decide) wn_283 rfl d_BN_lease_23 ?_
      refine lv_astore_n C.1 C.2.1 d_BN_lease_26 rfl hl (by decide) rfl (fun ls hl => ?_)
      have hl : lv_has ls 5 [(3, .ref (b + (75 + 20 * a2.toNatClampNeg))), (0, .ref (b + 0)), (1, .int a1), (2, .int a2)] := hl
      refine lv_aload_n C.1 C.2.1 d_BN_lease_27 rfl (lv_at hl 0 rfl) ?_
      refine lv_aload_n C.1 C.2.1 d_BN_lease_28 rfl (lv_at hl 1 rfl) ?_
      refine xget C hP o_BN rfl c_BN (k := 8) (v := .int (st 0 8 0)) (by decide) wg_386 rfl d_BN_lease_29 ?_
      refine xcVNi (rest := []) C hml hl.1 (k_SE_holderAt l D cA b st a2.toNatClampNeg (xin_lt (vd_isSettable h2)) (st 0 8 0)) q_SE_holderAt rfl rfl wn_550 wg_552 ws_22 ⟨Nat.le_of_ble_eq_true rfl, Nat.le_of_ble_eq_true rfl⟩ hP hS (o_SE (xin_lt (vd_isSettable h2))) rfl c_SE rfl (Nat.le_of_ble_eq_true rfl) d_BN_lease_32 rfl (fun H locs hP hS => ?_)
      refine lv_istore C.1 C.2.1 d_BN_lease_35 hl (by decide) rfl (fun ls hl => ?_)
      have hl : lv_has ls 5 [(4, .int (f_SE_holderAt st a2.toNatClampNeg (st 0 8 0))), (3, .ref (b + (75 + 20 * a2.toNatClampNeg))), (0, .ref (b + 0)), (1, .int a1), (2, .int a2)] := hl
      refine lv_iload C.1 C.2.1 d_BN_lease_37 (lv_at hl 0 rfl) ?_
      refine lv_iconst (v := (-1)) C.1 C.2.1 d_BN_lease_39 (by decide) ?_
      refine lv_icmp_eq (tgt := 51) C.1 C.2.1 d_BN_lease_40 (by decide) (fun h3 => ?_) (fun h3 => ?_)
      · refine lv_aload_n C.1 C.2.1 d_BN_lease_51 rfl (lv_at hl 1 rfl) ?_
        refine lv_iload_n C.1 C.2.1 d_BN_lease_52 rfl (lv_at hl 3 rfl) ?_
        refine xputN cw_inj C hP hS (o_SE (xin_lt (vd_isSettable h2))) rfl c_SE (k := 4) (x := a1) (by decide) wn_154 rfl rfl rfl rfl d_BN_lease_53 (fun H locs hP hS => ?_)
        refine lv_aload_n C.1 C.2.1 d_BN_lease_56 rfl (lv_at hl 1 rfl) ?_
        refine lv_aload_n C.1 C.2.1 d_BN_lease_57 rfl (lv_at hl 2 rfl) ?_
        refine xget C hP o_BN rfl c_BN (k := 8) (v := .int (st 0 8 0)) (by decide) wg_386 (congrArg Value.int (xu_a (by decide))) d_BN_lease_58 ?_
        refine xputN cw_inj C hP hS (o_SE (xin_lt (vd_isSettable h2))) rfl c_SE (k := 5) (x := (st 0 8 0)) (by decide) wn_157 rfl rfl rfl rfl d_BN_lease_61 (fun H locs hP hS => ?_)
        refine lv_iconst (v := 1) C.1 C.2.1 d_BN_lease_64 (by decide) ?_
        exact xrz C hlk hr bz_1 hP hS d_BN_lease_65 ⟨by rw [f_BN_lease, if_neg h1, if_neg h2, if_pos h3], by rw [f_BN_lease, if_neg h1, if_neg h2, if_pos h3]⟩
      · refine lv_iload C.1 C.2.1 d_BN_lease_43 (lv_at hl 0 rfl) ?_
        refine lv_iload_n C.1 C.2.1 d_BN_lease_45 rfl (lv_at hl 3 rfl) ?_
        refine lv_icmp_eq (tgt := 51) C.1 C.2.1 d_BN_lease_46 (by decide) (fun h4 => ?_) (fun h4 => ?_)
        · refine lv_aload_n C.1 C.2.1 d_BN_lease_51 rfl (lv_at hl 1 rfl) ?_
          refine lv_iload_n C.1 C.2.1 d_BN_lease_52 rfl (lv_at hl 3 rfl) ?_
          refine xputN cw_inj C hP hS (o_SE (xin_lt (vd_isSettable h2))) rfl c_SE (k := 4) (x := a1) (by decide) wn_154 rfl rfl rfl rfl d_BN_lease_53 (fun H locs hP hS => ?_)
          refine lv_aload_n C.1 C.2.1 d_BN_lease_56 rfl (lv_at hl 1 rfl) ?_
          refine lv_aload_n C.1 C.2.1 d_BN_lease_57 rfl (lv_at hl 2 rfl) ?_
          refine xget C hP o_BN rfl c_BN (k := 8) (v := .int (st 0 8 0)) (by decide) wg_386 (congrArg Value.int (xu_a (by decide))) d_BN_lease_58 ?_
          refine xputN cw_inj C hP hS (o_SE (xin_lt (vd_isSettable h2))) rfl c_SE (k := 5) (x := (st 0 8 0)) (by decide) wn_157 rfl rfl rfl rfl d_BN_lease_61 (fun H locs hP hS => ?_)
          refine lv_iconst (v := 1) C.1 C.2.1 d_BN_lease_64 (by decide) ?_
          exact xrz C hlk hr bz_1 hP hS d_BN_lease_65 ⟨by rw [f_BN_lease, if_neg h1, if_neg h2, if_neg h3, if_pos h4], by rw [f_BN_lease, if_neg h1, if_neg h2, if_neg h3, if_pos h4]⟩
        · refine lv_iconst (v := 0) C.1 C.2.1 d_BN_lease_49 (by decide) ?_
          exact xrz C hlk hr bz_0 hP hS d_BN_lease_50 ⟨by rw [f_BN_lease, if_neg h1, if_neg h2, if_neg h3, if_neg h4], by rw [f_BN_lease, if_neg h1, if_neg h2, if_neg h3, if_neg h4]⟩
    · refine lv_iconst (v := 0) C.1 C.2.1 d_BN_lease_15 (by decide) ?_
      exact xrz C hlk hr bz_0 hP hS d_BN_lease_16 ⟨by rw [f_BN_lease, if_neg h1, if_pos h2], by rw [f_BN_lease, if_neg h1, if_pos h2]⟩
