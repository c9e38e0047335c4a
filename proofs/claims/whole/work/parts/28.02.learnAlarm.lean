def f_BN_learnAlarm (st : XS) (o : Nat) : XS :=
  if (st 14 0 o) < (st 7 0 65) then (if (st 7 5 65) = 1 then (if (bz ((f_KN_learn st o (st 7 0 65) 1) 14 1 o)) = 0 then (f_KN_learn st o (st 7 0 65) 1)
      else (f_BN_sendSounds (f_KN_learn st o (st 7 0 65) 1) (st 7 2 65)))
    else if (bz ((f_KN_learn st o (st 7 0 65) 0) 14 1 o)) = 0 then (f_KN_learn st o (st 7 0 65) 0)
    else (f_BN_sendSounds (f_KN_learn st o (st 7 0 65) 0) (st 7 2 65)))
  else st
set_option maxRecDepth 100000 in
set_option maxHeartbeats 4000000 in
theorem fr_BN_learnAlarm {st : XS} {o : Nat} {a' k' i' : Nat} (h : (a', k') ∉ ([(5, 1), (5, 2), (5, 3), (7, 0), (7, 1), (7, 2), (7, 3), (7, 4), (7, 5), (7, 6), (7, 7), (8, 8), (14, 0), (14, 1), (14, 2)] : List (Nat × Nat))) (h2 : a' ∉ ([] : List Nat)) : (f_BN_learnAlarm st o) a' k' i' = st a' k' i' := by
  unfold f_BN_learnAlarm
  repeat' split
  all_goals (try dsimp only)
  all_goals (repeat (first | with_reducible rfl | rw [xu_f (fun e => h (by rw [e]; decide))] | rw [fr_BN_sendSounds (fun q => h ((by decide : ∀ z ∈ ([(5, 1), (5, 2), (5, 3), (7, 0), (7, 1), (7, 2), (7, 3), (7, 4), (7, 5), (7, 6), (7, 7), (8, 8)] : List (Nat × Nat)), z ∈ ([(5, 1), (5, 2), (5, 3), (7, 0), (7, 1), (7, 2), (7, 3), (7, 4), (7, 5), (7, 6), (7, 7), (8, 8), (14, 0), (14, 1), (14, 2)] : List (Nat × Nat))) _ q)) (fun q => h2 ((by decide : ∀ z ∈ ([] : List Nat), z ∈ ([] : List Nat)) _ q))] | rw [fr_KN_learn (fun q => h ((by decide : ∀ z ∈ ([(14, 0), (14, 1), (14, 2)] : List (Nat × Nat)), z ∈ ([(5, 1), (5, 2), (5, 3), (7, 0), (7, 1), (7, 2), (7, 3), (7, 4), (7, 5), (7, 6), (7, 7), (8, 8), (14, 0), (14, 1), (14, 2)] : List (Nat × Nat))) _ q)) (fun q => h2 ((by decide : ∀ z ∈ ([] : List Nat), z ∈ ([] : List Nat)) _ q))]))
theorem p_BN_learnAlarm {st : XS} {o : Nat} (h : pok st) : pok (f_BN_learnAlarm st o) := by
  unfold f_BN_learnAlarm
  repeat' split
  all_goals (try dsimp only)
  all_goals (repeat (first | with_reducible assumption | with_reducible refine p_BN_sendSounds ?_ | with_reducible refine p_KN_learn ?_ | with_reducible refine pok_xu ?_ ?_ ?_ | with_reducible refine pok_x5 ?_ ?_ | decide))
set_option maxRecDepth 100000 in
set_option maxHeartbeats 4000000 in
theorem k_BN_learnAlarm (l : Launch) (D : va_G) (cA : Nat → ClassId) (b : Nat) (st : XS) (jo o : Nat) (ho : xo cw jo 14 o) (hp : pok st) (hv : vp_in (st 7 2 65) 8) : xMv cw D cA b l y_BN_learnAlarm (Cond.code y_BN_learnAlarm b_BN_learnAlarm 2 none) { frames := 3, cells := 0, slots := 0, locals := 73 } st [.ref (b + 0), .ref (b + jo)] (f_BN_learnAlarm st o) := by
  refine xMv_of rfl (by decide) (Nat.le_of_ble_eq_true rfl) ?_
  intro p e s m below meth c ls C hlk hr hml hl hP hS
  have hl : lv_has ls 2 [(0, .ref (b + 0)), (1, .ref (b + jo))] := hl
  refine lv_aload_n C.1 C.2.1 d_BN_learnAlarm_0 rfl (lv_at hl 0 rfl) ?_
  refine xget C hP o_BN rfl c_BN (k := 5) (v := .ref (b + 72)) (by decide) wg_383 rfl d_BN_learnAlarm_1 ?_
  refine xgetN C hP o_IH rfl c_ME (k := 0) (v := .int (st 7 0 65)) (by decide) wn_51 rfl d_BN_learnAlarm_4 ?_
  refine lv_aload_n C.1 C.2.1 d_BN_learnAlarm_7 rfl (lv_at hl 1 rfl) ?_
  refine xgetN C hP ho rfl c_KN (k := 0) (v := .int (st 14 0 o)) (by decide) wn_227 rfl d_BN_learnAlarm_8 ?_
  refine lv_icmp_gt (tgt := 15) C.1 C.2.1 d_BN_learnAlarm_11 (by decide) (fun h1 => ?_) (fun h1 => ?_)
  · refine lv_aload_n C.1 C.2.1 d_BN_learnAlarm_15 rfl (lv_at hl 1 rfl) ?_
    refine lv_aload_n C.1 C.2.1 d_BN_learnAlarm_16 rfl (lv_at hl 0 rfl) ?_
    refine xget C hP o_BN rfl c_BN (k := 5) (v := .ref (b + 72)) (by decide) wg_383 rfl d_BN_learnAlarm_17 ?_
    refine xgetN C hP o_IH rfl c_ME (k := 0) (v := .int (st 7 0 65)) (by decide) wn_51 rfl d_BN_learnAlarm_20 ?_
    refine lv_aload_n C.1 C.2.1 d_BN_learnAlarm_23 rfl (lv_at hl 0 rfl) ?_
    refine xget C hP o_BN rfl c_BN (k := 5) (v := .ref (b + 72)) (by decide) wg_383 rfl d_BN_learnAlarm_24 ?_
    refine xgetN C hP o_IH rfl c_ME (k := 5) (v := .int (st 7 5 65)) (by decide) wn_70 rfl d_BN_learnAlarm_27 ?_
    refine lv_iconst (v := 1) C.1 C.2.1 d_BN_learnAlarm_30 (by decide) ?_
    refine lv_icmp_ne (tgt := 38) C.1 C.2.1 d_BN_learnAlarm_31 (by decide) (fun h2 => ?_) (fun h2 => ?_)
    · refine lv_iconst (v := 0) C.1 C.2.1 d_BN_learnAlarm_38 (by decide) ?_
      refine xcVNv (rest := []) C hml hl.1 (k_KN_learn l D cA b st jo o ho (st 7 0 65) 0 bz_0) q_KN_learn rfl rfl wn_566 wg_568 ws_26 ⟨Nat.le_of_ble_eq_true rfl, Nat.le_of_ble_eq_true rfl⟩ hP hS ho rfl c_KN rfl (Nat.le_of_ble_eq_true rfl) d_BN_learnAlarm_39 rfl (fun H locs hP hS => ?_)
      refine lv_aload_n C.1 C.2.1 d_BN_learnAlarm_42 rfl (lv_at hl 1 rfl) ?_
      refine xgetN C hP ho rfl c_KN (k := 1) (v := .int (bz ((f_KN_learn st o (st 7 0 65) 0) 14 1 o))) (by decide) wn_229 rfl d_BN_learnAlarm_43 ?_
      refine lv_if_eq (tgt := 60) C.1 C.2.1 d_BN_learnAlarm_46 (by decide) (fun h3 => ?_) (fun h3 => ?_)
      · exact xrv C hlk hr hP hS d_BN_learnAlarm_60 (by rw [f_BN_learnAlarm, if_pos h1, if_neg h2, if_pos h3])
      · refine lv_aload_n C.1 C.2.1 d_BN_learnAlarm_49 rfl (lv_at hl 0 rfl) ?_
        refine lv_aload_n C.1 C.2.1 d_BN_learnAlarm_50 rfl (lv_at hl 0 rfl) ?_
        refine xget C hP o_BN rfl c_BN (k := 5) (v := .ref (b + 72)) (by decide) wg_383 rfl d_BN_learnAlarm_51 ?_
        refine xgetN C hP o_IH rfl c_ME (k := 2) (v := .int (st 7 2 65)) (by decide) wn_58 (congrArg Value.int (fr_KN_learn (by decide) (by decide))) d_BN_learnAlarm_54 ?_
        refine xcVv (rest := []) C hml hl.1 (k_BN_sendSounds l D cA b (f_KN_learn st o (st 7 0 65) 0) (st 7 2 65) (pok_of hp (fr_KN_learn (by decide) (by decide)) (fun _ => fr_KN_learn (by simp) (by decide))) hv) q_BN_sendSounds rfl rfl wg_570 wg_572 ws_27 ⟨Nat.le_of_ble_eq_true rfl, Nat.le_of_ble_eq_true rfl⟩ hP hS o_BN rfl c_BN rfl (Nat.le_of_ble_eq_true rfl) d_BN_learnAlarm_57 rfl (fun H locs hP hS => ?_)
        exact xrv C hlk hr hP hS d_BN_learnAlarm_60 (by rw [f_BN_learnAlarm, if_pos h1, if_neg h2, if_neg h3])
    · refine lv_iconst (v := 1) C.1 C.2.1 d_BN_learnAlarm_34 (by decide) ?_
      refine lv_goto (tgt := 39) C.1 C.2.1 d_BN_learnAlarm_35 (by decide) ?_
      refine xcVNv (rest := []) C hml hl.1 (k_KN_learn l D cA b st jo o ho (st 7 0 65) 1 bz_1) q_KN_learn rfl rfl wn_566 wg_568 ws_26 ⟨Nat.le_of_ble_eq_true rfl, Nat.le_of_ble_eq_true rfl⟩ hP hS ho rfl c_KN rfl (Nat.le_of_ble_eq_true rfl) d_BN_learnAlarm_39 rfl (fun H locs hP hS => ?_)
      refine lv_aload_n C.1 C.2.1 d_BN_learnAlarm_42 rfl (lv_at hl 1 rfl) ?_
      refine xgetN C hP ho rfl c_KN (k := 1) (v := .int (bz ((f_KN_learn st o (st 7 0 65) 1) 14 1 o))) (by decide) wn_229 rfl d_BN_learnAlarm_43 ?_
      refine lv_if_eq (tgt := 60) C.1 C.2.1 d_BN_learnAlarm_46 (by decide) (fun h4 => ?_) (fun h4 => ?_)
      · exact xrv C hlk hr hP hS d_BN_learnAlarm_60 (by rw [f_BN_learnAlarm, if_pos h1, if_pos h2, if_pos h4])
      · refine lv_aload_n C.1 C.2.1 d_BN_learnAlarm_49 rfl (lv_at hl 0 rfl) ?_
        refine lv_aload_n C.1 C.2.1 d_BN_learnAlarm_50 rfl (lv_at hl 0 rfl) ?_
        refine xget C hP o_BN rfl c_BN (k := 5) (v := .ref (b + 72)) (by decide) wg_383 rfl d_BN_learnAlarm_51 ?_
        refine xgetN C hP o_IH rfl c_ME (k := 2) (v := .int (st 7 2 65)) (by decide) wn_58 (congrArg Value.int (fr_KN_learn (by decide) (by decide))) d_BN_learnAlarm_54 ?_
        refine xcVv (rest := []) C hml hl.1 (k_BN_sendSounds l D cA b (f_KN_learn st o (st 7 0 65) 1) (st 7 2 65) (pok_of hp (fr_KN_learn (by decide) (by decide)) (fun _ => fr_KN_learn (by simp) (by decide))) hv) q_BN_sendSounds rfl rfl wg_570 wg_572 ws_27 ⟨Nat.le_of_ble_eq_true rfl, Nat.le_of_ble_eq_true rfl⟩ hP hS o_BN rfl c_BN rfl (Nat.le_of_ble_eq_true rfl) d_BN_learnAlarm_57 rfl (fun H locs hP hS => ?_)
        exact xrv C hlk hr hP hS d_BN_learnAlarm_60 (by rw [f_BN_learnAlarm, if_pos h1, if_pos h2, if_neg h4])
  · exact xrv C hlk hr hP hS d_BN_learnAlarm_14 (by rw [f_BN_learnAlarm, if_neg h1])
