def f_BN_takeOrder (st : XS) (d : Nat) : XS :=
  if (st 16 3 ((st 7 3 65)).toNatClampNeg) = (-1) then (if (f_BN_judge st ((st 7 3 65)).toNatClampNeg d) = 0 then (f_BN_send (xu (xu st 16 3 ((st 7 3 65)).toNatClampNeg (f_BN_judge st ((st 7 3 65)).toNatClampNeg d)) 10 2 d (st 16 1 ((st 7 3 65)).toNatClampNeg)) 6 (st 7 2 65) (st 7 3 65) (f_BN_judge st ((st 7 3 65)).toNatClampNeg d))
    else (f_BN_send (xu st 16 3 ((st 7 3 65)).toNatClampNeg (f_BN_judge st ((st 7 3 65)).toNatClampNeg d)) 6 (st 7 2 65) (st 7 3 65) (f_BN_judge st ((st 7 3 65)).toNatClampNeg d)))
  else (f_BN_send st 6 (st 7 2 65) (st 7 3 65) (st 16 3 ((st 7 3 65)).toNatClampNeg))
set_option maxRecDepth 100000 in
set_option maxHeartbeats 4000000 in
theorem fr_BN_takeOrder {st : XS} {d : Nat} {a' k' i' : Nat} (h : (a', k') ∉ ([(5, 1), (5, 2), (5, 3), (7, 0), (7, 1), (7, 2), (7, 3), (7, 4), (7, 5), (7, 6), (7, 7), (10, 2), (16, 3)] : List (Nat × Nat))) (h2 : a' ∉ ([] : List Nat)) : (f_BN_takeOrder st d) a' k' i' = st a' k' i' := by
  unfold f_BN_takeOrder
  repeat' split
  all_goals (try dsimp only)
  all_goals (repeat (first | with_reducible rfl | rw [xu_f (fun e => h (by rw [e]; decide))] | rw [fr_BN_send (fun q => h ((by decide : ∀ z ∈ ([(5, 1), (5, 2), (5, 3), (7, 0), (7, 1), (7, 2), (7, 3), (7, 4), (7, 5), (7, 6), (7, 7)] : List (Nat × Nat)), z ∈ ([(5, 1), (5, 2), (5, 3), (7, 0), (7, 1), (7, 2), (7, 3), (7, 4), (7, 5), (7, 6), (7, 7), (10, 2), (16, 3)] : List (Nat × Nat))) _ q)) (fun q => h2 ((by decide : ∀ z ∈ ([] : List Nat), z ∈ ([] : List Nat)) _ q))]))
theorem p_BN_takeOrder {st : XS} {d : Nat} (h : pok st) : pok (f_BN_takeOrder st d) := by
  unfold f_BN_takeOrder
  repeat' split
  all_goals (try dsimp only)
  all_goals (repeat (first | with_reducible assumption | with_reducible refine p_BN_send ?_ | with_reducible refine pok_xu ?_ ?_ ?_ | with_reducible refine pok_x5 ?_ ?_ | decide))
set_option maxRecDepth 100000 in
set_option maxHeartbeats 4000000 in
theorem k_BN_takeOrder (l : Launch) (D : va_G) (cA : Nat → ClassId) (b : Nat) (st : XS) (d : Nat) (hd : d < 8) (hp : pok st) (hq : vp_in (st 7 3 65) 100) (hv : vp_in (st 7 2 65) 8) : xMv cw D cA b l y_BN_takeOrder (Cond.code y_BN_takeOrder b_BN_takeOrder 3 none) { frames := 2, cells := 0, slots := 0, locals := 52 } st [.ref (b + 0), .ref (b + (73 + 20 * d))] (f_BN_takeOrder st d) := by
  refine xMv_of rfl (by decide) (Nat.le_of_ble_eq_true rfl) ?_
  intro p e s m below meth c ls C hlk hr hml hl hP hS
  have hl : lv_has ls 3 [(0, .ref (b + 0)), (1, .ref (b + (73 + 20 * d)))] := hl
  refine lv_aload_n C.1 C.2.1 d_BN_takeOrder_0 rfl (lv_at hl 0 rfl) ?_
  refine xget C hP o_BN rfl c_BN (k := 3) (v := .ref (b + 4)) (by decide) wg_381 rfl d_BN_takeOrder_1 ?_
  refine lv_aload_n C.1 C.2.1 d_BN_takeOrder_4 rfl (lv_at hl 0 rfl) ?_
  refine xget C hP o_BN rfl c_BN (k := 5) (v := .ref (b + 72)) (by decide) wg_383 rfl d_BN_takeOrder_5 ?_
  refine xgetN C hP o_IH rfl c_ME (k := 3) (v := .int (st 7 3 65)) (by decide) wn_62 rfl d_BN_takeOrder_8 ?_
  refine xaald C hP o_oa rfl (E := R_OR) rfl (v := b + (249 + ((st 7 3 65)).toNatClampNeg)) hq rfl d_BN_takeOrder_11 ?_
  refine lv_astore_n C.1 C.2.1 d_BN_takeOrder_12 rfl hl (by decide) rfl (fun ls hl => ?_)
  have hl : lv_has ls 3 [(2, .ref (b + (249 + ((st 7 3 65)).toNatClampNeg))), (0, .ref (b + 0)), (1, .ref (b + (73 + 20 * d)))] := hl
  refine lv_aload_n C.1 C.2.1 d_BN_takeOrder_13 rfl (lv_at hl 0 rfl) ?_
  refine xgetN C hP (o_OR (xin_lt hq)) rfl c_OR (k := 3) (v := .int (st 16 3 ((st 7 3 65)).toNatClampNeg)) (by decide) wn_365 rfl d_BN_takeOrder_14 ?_
  refine lv_iconst (v := (-1)) C.1 C.2.1 d_BN_takeOrder_17 (by decide) ?_
  refine lv_icmp_ne (tgt := 49) C.1 C.2.1 d_BN_takeOrder_18 (by decide) (fun h1 => ?_) (fun h1 => ?_)
  · refine lv_aload_n C.1 C.2.1 d_BN_takeOrder_49 rfl (lv_at hl 1 rfl) ?_
    refine lv_bipush (v := 6) C.1 C.2.1 d_BN_takeOrder_50 (by decide) ?_
    refine lv_aload_n C.1 C.2.1 d_BN_takeOrder_52 rfl (lv_at hl 1 rfl) ?_
    refine xget C hP o_BN rfl c_BN (k := 5) (v := .ref (b + 72)) (by decide) wg_383 rfl d_BN_takeOrder_53 ?_
    refine xgetN C hP o_IH rfl c_ME (k := 2) (v := .int (st 7 2 65)) (by decide) wn_58 rfl d_BN_takeOrder_56 ?_
    refine lv_aload_n C.1 C.2.1 d_BN_takeOrder_59 rfl (lv_at hl 1 rfl) ?_
    refine xget C hP o_BN rfl c_BN (k := 5) (v := .ref (b + 72)) (by decide) wg_383 rfl d_BN_takeOrder_60 ?_
    refine xgetN C hP o_IH rfl c_ME (k := 3) (v := .int (st 7 3 65)) (by decide) wn_62 rfl d_BN_takeOrder_63 ?_
    refine lv_aload_n C.1 C.2.1 d_BN_takeOrder_66 rfl (lv_at hl 0 rfl) ?_
    refine xgetN C hP (o_OR (xin_lt hq)) rfl c_OR (k := 3) (v := .int (st 16 3 ((st 7 3 65)).toNatClampNeg)) (by decide) wn_365 rfl d_BN_takeOrder_67 ?_
    refine xcVv (rest := []) C hml hl.1 (k_BN_send l D cA b st 6 (st 7 2 65) (st 7 3 65) (st 16 3 ((st 7 3 65)).toNatClampNeg) hp hv) q_BN_send rfl rfl wg_518 wg_520 ws_15 ⟨Nat.le_of_ble_eq_true rfl, Nat.le_of_ble_eq_true rfl⟩ hP hS o_BN rfl c_BN rfl (Nat.le_of_ble_eq_true rfl) d_BN_takeOrder_70 rfl (fun H locs hP hS => ?_)
    exact xrv C hlk hr hP hS d_BN_takeOrder_73 (by rw [f_BN_takeOrder, if_neg h1])
  · refine lv_aload_n C.1 C.2.1 d_BN_takeOrder_21 rfl (lv_at hl 0 rfl) ?_
    refine lv_aload_n C.1 C.2.1 d_BN_takeOrder_22 rfl (lv_at hl 1 rfl) ?_
    refine lv_aload_n C.1 C.2.1 d_BN_takeOrder_23 rfl (lv_at hl 0 rfl) ?_
    refine lv_aload_n C.1 C.2.1 d_BN_takeOrder_24 rfl (lv_at hl 2 rfl) ?_
    refine xcVi (rest := [.ref (b + (249 + ((st 7 3 65)).toNatClampNeg))]) C hml hl.1 (k_BN_judge l D cA b st (249 + ((st 7 3 65)).toNatClampNeg) ((st 7 3 65)).toNatClampNeg (o_OR (xin_lt hq)) d hd) q_BN_judge rfl rfl wg_546 wg_548 ws_21 ⟨Nat.le_of_ble_eq_true rfl, Nat.le_of_ble_eq_true rfl⟩ hP hS o_BN rfl c_BN rfl (Nat.le_of_ble_eq_true rfl) d_BN_takeOrder_25 rfl (fun H locs hP hS => ?_)
    refine xputN cw_inj C hP hS (o_OR (xin_lt hq)) rfl c_OR (k := 3) (x := (f_BN_judge st ((st 7 3 65)).toNatClampNeg d)) (by decide) wn_365 rfl rfl rfl rfl d_BN_takeOrder_28 (fun H locs hP hS => ?_)
    refine lv_aload_n C.1 C.2.1 d_BN_takeOrder_31 rfl (lv_at hl 0 rfl) ?_
    refine xgetN C hP (o_OR (xin_lt hq)) rfl c_OR (k := 3) (v := .int (f_BN_judge st ((st 7 3 65)).toNatClampNeg d)) (by decide) wn_365 (congrArg Value.int xu_s) d_BN_takeOrder_32 ?_
    refine lv_if_ne (tgt := 49) C.1 C.2.1 d_BN_takeOrder_35 (by decide) (fun h2 => ?_) (fun h2 => ?_)
    · refine lv_aload_n C.1 C.2.1 d_BN_takeOrder_49 rfl (lv_at hl 1 rfl) ?_
      refine lv_bipush (v := 6) C.1 C.2.1 d_BN_takeOrder_50 (by decide) ?_
      refine lv_aload_n C.1 C.2.1 d_BN_takeOrder_52 rfl (lv_at hl 1 rfl) ?_
      refine xget C hP o_BN rfl c_BN (k := 5) (v := .ref (b + 72)) (by decide) wg_383 rfl d_BN_takeOrder_53 ?_
      refine xgetN C hP o_IH rfl c_ME (k := 2) (v := .int (st 7 2 65)) (by decide) wn_58 (congrArg Value.int (xu_a (by decide))) d_BN_takeOrder_56 ?_
      refine lv_aload_n C.1 C.2.1 d_BN_takeOrder_59 rfl (lv_at hl 1 rfl) ?_
      refine xget C hP o_BN rfl c_BN (k := 5) (v := .ref (b + 72)) (by decide) wg_383 rfl d_BN_takeOrder_60 ?_
      refine xgetN C hP o_IH rfl c_ME (k := 3) (v := .int (st 7 3 65)) (by decide) wn_62 (congrArg Value.int (xu_a (by decide))) d_BN_takeOrder_63 ?_
      refine lv_aload_n C.1 C.2.1 d_BN_takeOrder_66 rfl (lv_at hl 0 rfl) ?_
      refine xgetN C hP (o_OR (xin_lt hq)) rfl c_OR (k := 3) (v := .int (f_BN_judge st ((st 7 3 65)).toNatClampNeg d)) (by decide) wn_365 (congrArg Value.int xu_s) d_BN_takeOrder_67 ?_
      refine xcVv (rest := []) C hml hl.1 (k_BN_send l D cA b (xu st 16 3 ((st 7 3 65)).toNatClampNeg (f_BN_judge st ((st 7 3 65)).toNatClampNeg d)) 6 (st 7 2 65) (st 7 3 65) (f_BN_judge st ((st 7 3 65)).toNatClampNeg d) (pok_xu hp (by decide) (by decide)) hv) q_BN_send rfl rfl wg_518 wg_520 ws_15 ⟨Nat.le_of_ble_eq_true rfl, Nat.le_of_ble_eq_true rfl⟩ hP hS o_BN rfl c_BN rfl (Nat.le_of_ble_eq_true rfl) d_BN_takeOrder_70 rfl (fun H locs hP hS => ?_)
      exact xrv C hlk hr hP hS d_BN_takeOrder_73 (by rw [f_BN_takeOrder, if_pos h1, if_neg h2])
    · refine lv_aload_n C.1 C.2.1 d_BN_takeOrder_38 rfl (lv_at hl 2 rfl) ?_
      refine xgetN C hP (o_DE hd) rfl c_DE (k := 1) (v := .ref (b + (75 + 20 * d))) (by decide) wn_283 rfl d_BN_takeOrder_39 ?_
      refine lv_aload_n C.1 C.2.1 d_BN_takeOrder_42 rfl (lv_at hl 0 rfl) ?_
      refine xgetN C hP (o_OR (xin_lt hq)) rfl c_OR (k := 1) (v := .int (st 16 1 ((st 7 3 65)).toNatClampNeg)) (by decide) wn_361 (congrArg Value.int (xu_f (by decide))) d_BN_takeOrder_43 ?_
      refine xputN cw_inj C hP hS (o_SE hd) rfl c_SE (k := 2) (x := (st 16 1 ((st 7 3 65)).toNatClampNeg)) (by decide) wn_150 rfl rfl rfl rfl d_BN_takeOrder_46 (fun H locs hP hS => ?_)
      refine lv_aload_n C.1 C.2.1 d_BN_takeOrder_49 rfl (lv_at hl 1 rfl) ?_
      refine lv_bipush (v := 6) C.1 C.2.1 d_BN_takeOrder_50 (by decide) ?_
      refine lv_aload_n C.1 C.2.1 d_BN_takeOrder_52 rfl (lv_at hl 1 rfl) ?_
      refine xget C hP o_BN rfl c_BN (k := 5) (v := .ref (b + 72)) (by decide) wg_383 rfl d_BN_takeOrder_53 ?_
      refine xgetN C hP o_IH rfl c_ME (k := 2) (v := .int (st 7 2 65)) (by decide) wn_58 (congrArg Value.int (Eq.trans (xu_a (by decide)) (xu_a (by decide)))) d_BN_takeOrder_56 ?_
      refine lv_aload_n C.1 C.2.1 d_BN_takeOrder_59 rfl (lv_at hl 1 rfl) ?_
      refine xget C hP o_BN rfl c_BN (k := 5) (v := .ref (b + 72)) (by decide) wg_383 rfl d_BN_takeOrder_60 ?_
      refine xgetN C hP o_IH rfl c_ME (k := 3) (v := .int (st 7 3 65)) (by decide) wn_62 (congrArg Value.int (Eq.trans (xu_a (by decide)) (xu_a (by decide)))) d_BN_takeOrder_63 ?_
      refine lv_aload_n C.1 C.2.1 d_BN_takeOrder_66 rfl (lv_at hl 0 rfl) ?_
      refine xgetN C hP (o_OR (xin_lt hq)) rfl c_OR (k := 3) (v := .int (f_BN_judge st ((st 7 3 65)).toNatClampNeg d)) (by decide) wn_365 (congrArg Value.int (Eq.trans (xu_a (by decide)) xu_s)) d_BN_takeOrder_67 ?_
      refine xcVv (rest := []) C hml hl.1 (k_BN_send l D cA b (xu (xu st 16 3 ((st 7 3 65)).toNatClampNeg (f_BN_judge st ((st 7 3 65)).toNatClampNeg d)) 10 2 d (st 16 1 ((st 7 3 65)).toNatClampNeg)) 6 (st 7 2 65) (st 7 3 65) (f_BN_judge st ((st 7 3 65)).toNatClampNeg d) (pok_xu (pok_xu hp (by decide) (by decide)) (by decide) (by decide)) hv) q_BN_send rfl rfl wg_518 wg_520 ws_15 ⟨Nat.le_of_ble_eq_true rfl, Nat.le_of_ble_eq_true rfl⟩ hP hS o_BN rfl c_BN rfl (Nat.le_of_ble_eq_true rfl) d_BN_takeOrder_70 rfl (fun H locs hP hS => ?_)
      exact xrv C hlk hr hP hS d_BN_takeOrder_73 (by rw [f_BN_takeOrder, if_pos h1, if_pos h2])
