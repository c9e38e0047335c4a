def f_BN_deliver (st : XS) : XS :=
  if (st 7 1 65) = 5 then (f_BN_takeOrder st ((st 7 2 65)).toNatClampNeg)
  else if (st 7 1 65) = 6 then (xu st 16 4 ((st 7 3 65)).toNatClampNeg (1 + (st 7 5 65)))
  else if (st 7 4 65) = (st 8 4 ((st 7 2 65)).toNatClampNeg) then (f_BN_deliverWithinLife st ((st 7 2 65)).toNatClampNeg)
  else st
set_option maxRecDepth 100000 in
set_option maxHeartbeats 4000000 in
theorem fr_BN_deliver {st : XS} {a' k' i' : Nat} (h : (a', k') ∉ ([(5, 1), (5, 2), (5, 3), (7, 0), (7, 1), (7, 2), (7, 3), (7, 4), (7, 5), (7, 6), (7, 7), (8, 7), (8, 8), (10, 2), (13, 8), (14, 0), (14, 1), (14, 2), (15, 4), (15, 5), (15, 6), (15, 7), (16, 3), (16, 4)] : List (Nat × Nat))) (h2 : a' ∉ ([] : List Nat)) : (f_BN_deliver st) a' k' i' = st a' k' i' := by
  unfold f_BN_deliver
  repeat' split
  all_goals (try dsimp only)
  all_goals (repeat (first | with_reducible rfl | rw [xu_f (fun e => h (by rw [e]; decide))] | rw [fr_BN_deliverWithinLife (fun q => h ((by decide : ∀ z ∈ ([(5, 1), (5, 2), (5, 3), (7, 0), (7, 1), (7, 2), (7, 3), (7, 4), (7, 5), (7, 6), (7, 7), (8, 7), (8, 8), (13, 8), (14, 0), (14, 1), (14, 2), (15, 4), (15, 5), (15, 6), (15, 7)] : List (Nat × Nat)), z ∈ ([(5, 1), (5, 2), (5, 3), (7, 0), (7, 1), (7, 2), (7, 3), (7, 4), (7, 5), (7, 6), (7, 7), (8, 7), (8, 8), (10, 2), (13, 8), (14, 0), (14, 1), (14, 2), (15, 4), (15, 5), (15, 6), (15, 7), (16, 3), (16, 4)] : List (Nat × Nat))) _ q)) (fun q => h2 ((by decide : ∀ z ∈ ([] : List Nat), z ∈ ([] : List Nat)) _ q))] | rw [fr_BN_takeOrder (fun q => h ((by decide : ∀ z ∈ ([(5, 1), (5, 2), (5, 3), (7, 0), (7, 1), (7, 2), (7, 3), (7, 4), (7, 5), (7, 6), (7, 7), (10, 2), (16, 3)] : List (Nat × Nat)), z ∈ ([(5, 1), (5, 2), (5, 3), (7, 0), (7, 1), (7, 2), (7, 3), (7, 4), (7, 5), (7, 6), (7, 7), (8, 7), (8, 8), (10, 2), (13, 8), (14, 0), (14, 1), (14, 2), (15, 4), (15, 5), (15, 6), (15, 7), (16, 3), (16, 4)] : List (Nat × Nat))) _ q)) (fun q => h2 ((by decide : ∀ z ∈ ([] : List Nat), z ∈ ([] : List Nat)) _ q))]))
theorem p_BN_deliver {st : XS} (h : pok st) : pok (f_BN_deliver st) := by
  unfold f_BN_deliver
  repeat' split
  all_goals (try dsimp only)
  all_goals (repeat (first | with_reducible assumption | with_reducible refine p_BN_deliverWithinLife ?_ | with_reducible refine p_BN_takeOrder ?_ | with_reducible refine pok_xu ?_ ?_ ?_ | with_reducible refine pok_x5 ?_ ?_ | decide))
set_option maxRecDepth 100000 in
set_option maxHeartbeats 4000000 in
theorem k_BN_deliver (l : Launch) (D : va_G) (cA : Nat → ClassId) (b : Nat) (st : XS) (hp : pok st) (hm : mok st 65) (hy : (st 0 6 0).toInt ≤ (16 : Nat)) : xMv cw D cA b l y_BN_deliver (Cond.code y_BN_deliver b_BN_deliver 2 none) { frames := 5, cells := 0, slots := 0, locals := 116 } st [.ref (b + 0)] (f_BN_deliver st) := by
  refine xMv_of rfl (by decide) (Nat.le_of_ble_eq_true rfl) ?_
  intro p e s m below meth c ls C hlk hr hml hl hP hS
  have hl : lv_has ls 2 [(0, .ref (b + 0))] := hl
  refine lv_aload_n C.1 C.2.1 d_BN_deliver_0 rfl (lv_at hl 0 rfl) ?_
  refine xget C hP o_BN rfl c_BN (k := 0) (v := .ref (b + 1)) (by decide) wg_378 rfl d_BN_deliver_1 ?_
  refine lv_aload_n C.1 C.2.1 d_BN_deliver_4 rfl (lv_at hl 0 rfl) ?_
  refine xget C hP o_BN rfl c_BN (k := 5) (v := .ref (b + 72)) (by decide) wg_383 rfl d_BN_deliver_5 ?_
  refine xgetN C hP o_IH rfl c_ME (k := 2) (v := .int (st 7 2 65)) (by decide) wn_58 rfl d_BN_deliver_8 ?_
  refine xaald C hP o_da rfl (E := R_DE) rfl (v := b + (73 + 20 * ((st 7 2 65)).toNatClampNeg)) hm.1 rfl d_BN_deliver_11 ?_
  refine lv_astore_n C.1 C.2.1 d_BN_deliver_12 rfl hl (by decide) rfl (fun ls hl => ?_)
  have hl : lv_has ls 2 [(1, .ref (b + (73 + 20 * ((st 7 2 65)).toNatClampNeg))), (0, .ref (b + 0))] := hl
  refine lv_aload_n C.1 C.2.1 d_BN_deliver_13 rfl (lv_at hl 1 rfl) ?_
  refine xget C hP o_BN rfl c_BN (k := 5) (v := .ref (b + 72)) (by decide) wg_383 rfl d_BN_deliver_14 ?_
  refine xgetN C hP o_IH rfl c_ME (k := 1) (v := .int (st 7 1 65)) (by decide) wn_54 rfl d_BN_deliver_17 ?_
  refine lv_iconst (v := 5) C.1 C.2.1 d_BN_deliver_20 (by decide) ?_
  refine lv_icmp_ne (tgt := 32) C.1 C.2.1 d_BN_deliver_21 (by decide) (fun h1 => ?_) (fun h1 => ?_)
  · refine lv_aload_n C.1 C.2.1 d_BN_deliver_32 rfl (lv_at hl 1 rfl) ?_
    refine xget C hP o_BN rfl c_BN (k := 5) (v := .ref (b + 72)) (by decide) wg_383 rfl d_BN_deliver_33 ?_
    refine xgetN C hP o_IH rfl c_ME (k := 1) (v := .int (st 7 1 65)) (by decide) wn_54 rfl d_BN_deliver_36 ?_
    refine lv_bipush (v := 6) C.1 C.2.1 d_BN_deliver_39 (by decide) ?_
    refine lv_icmp_ne (tgt := 71) C.1 C.2.1 d_BN_deliver_41 (by decide) (fun h2 => ?_) (fun h2 => ?_)
    · refine lv_aload_n C.1 C.2.1 d_BN_deliver_71 rfl (lv_at hl 1 rfl) ?_
      refine xget C hP o_BN rfl c_BN (k := 5) (v := .ref (b + 72)) (by decide) wg_383 rfl d_BN_deliver_72 ?_
      refine xgetN C hP o_IH rfl c_ME (k := 4) (v := .int (st 7 4 65)) (by decide) wn_66 rfl d_BN_deliver_75 ?_
      refine lv_aload_n C.1 C.2.1 d_BN_deliver_78 rfl (lv_at hl 0 rfl) ?_
      refine xgetN C hP (o_DE (xin_lt hm.1)) rfl c_DE (k := 4) (v := .int (st 8 4 ((st 7 2 65)).toNatClampNeg)) (by decide) wn_289 rfl d_BN_deliver_79 ?_
      refine lv_icmp_ne (tgt := 90) C.1 C.2.1 d_BN_deliver_82 (by decide) (fun h3 => ?_) (fun h3 => ?_)
      · exact xrv C hlk hr hP hS d_BN_deliver_90 (by rw [f_BN_deliver, if_neg h1, if_neg h2, if_neg h3])
      · refine lv_aload_n C.1 C.2.1 d_BN_deliver_85 rfl (lv_at hl 1 rfl) ?_
        refine lv_aload_n C.1 C.2.1 d_BN_deliver_86 rfl (lv_at hl 0 rfl) ?_
        refine xcVv (rest := []) C hml hl.1 (k_BN_deliverWithinLife l D cA b st ((st 7 2 65)).toNatClampNeg (xin_lt hm.1) hp hm.1 hm.2.2 hy) q_BN_deliverWithinLife rfl rfl wg_554 wg_556 ws_23 ⟨Nat.le_of_ble_eq_true rfl, Nat.le_of_ble_eq_true rfl⟩ hP hS o_BN rfl c_BN rfl (Nat.le_of_ble_eq_true rfl) d_BN_deliver_87 rfl (fun H locs hP hS => ?_)
        exact xrv C hlk hr hP hS d_BN_deliver_90 (by rw [f_BN_deliver, if_neg h1, if_neg h2, if_pos h3])
    · refine lv_aload_n C.1 C.2.1 d_BN_deliver_44 rfl (lv_at hl 1 rfl) ?_
      refine xget C hP o_BN rfl c_BN (k := 3) (v := .ref (b + 4)) (by decide) wg_381 rfl d_BN_deliver_45 ?_
      refine lv_aload_n C.1 C.2.1 d_BN_deliver_48 rfl (lv_at hl 1 rfl) ?_
      refine xget C hP o_BN rfl c_BN (k := 5) (v := .ref (b + 72)) (by decide) wg_383 rfl d_BN_deliver_49 ?_
      refine xgetN C hP o_IH rfl c_ME (k := 3) (v := .int (st 7 3 65)) (by decide) wn_62 rfl d_BN_deliver_52 ?_
      refine xaald C hP o_oa rfl (E := R_OR) rfl (v := b + (249 + ((st 7 3 65)).toNatClampNeg)) (hm.2.1 (Or.inr h2)) rfl d_BN_deliver_55 ?_
      refine lv_iconst (v := 1) C.1 C.2.1 d_BN_deliver_56 (by decide) ?_
      refine lv_aload_n C.1 C.2.1 d_BN_deliver_57 rfl (lv_at hl 1 rfl) ?_
      refine xget C hP o_BN rfl c_BN (k := 5) (v := .ref (b + 72)) (by decide) wg_383 rfl d_BN_deliver_58 ?_
      refine xgetN C hP o_IH rfl c_ME (k := 5) (v := .int (st 7 5 65)) (by decide) wn_70 rfl d_BN_deliver_61 ?_
      refine lv_iadd C.1 C.2.1 d_BN_deliver_64 ?_
      refine xputN cw_inj C hP hS (o_OR (xin_lt (hm.2.1 (Or.inr h2)))) rfl c_OR (k := 4) (x := (1 + (st 7 5 65))) (by decide) wn_366 rfl rfl rfl rfl d_BN_deliver_65 (fun H locs hP hS => ?_)
      refine lv_goto (tgt := 90) C.1 C.2.1 d_BN_deliver_68 (by decide) ?_
      exact xrv C hlk hr hP hS d_BN_deliver_90 (by rw [f_BN_deliver, if_neg h1, if_pos h2])
  · refine lv_aload_n C.1 C.2.1 d_BN_deliver_24 rfl (lv_at hl 1 rfl) ?_
    refine lv_aload_n C.1 C.2.1 d_BN_deliver_25 rfl (lv_at hl 0 rfl) ?_
    refine xcVv (rest := []) C hml hl.1 (k_BN_takeOrder l D cA b st ((st 7 2 65)).toNatClampNeg (xin_lt hm.1) hp (hm.2.1 (Or.inl h1)) hm.1) q_BN_takeOrder rfl rfl wg_542 wg_544 ws_20 ⟨Nat.le_of_ble_eq_true rfl, Nat.le_of_ble_eq_true rfl⟩ hP hS o_BN rfl c_BN rfl (Nat.le_of_ble_eq_true rfl) d_BN_deliver_26 rfl (fun H locs hP hS => ?_)
    refine lv_goto (tgt := 90) C.1 C.2.1 d_BN_deliver_29 (by decide) ?_
    exact xrv C hlk hr hP hS d_BN_deliver_90 (by rw [f_BN_deliver, if_pos h1])
