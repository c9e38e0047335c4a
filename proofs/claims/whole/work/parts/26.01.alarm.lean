def f_BN_alarm (st : XS) (a1 : Int32) (a2 : Int32) (a3 : Int32) (a4 : Int32) (a5 : Int32) : XS × Int32 :=
  if (f_BN_isOpen st a1) = 0 then (st, 0)
  else if (f_DE_hasChannel st a1.toNatClampNeg a2) = 0 then (st, 0)
  else if a3 < 1 then (st, 0)
  else if 3 < a3 then (st, 0)
  else if (f_BN_isNumber a4) = 0 then (st, 0)
  else if (f_BN_isSpan a5) = 0 then (st, 0)
  else ((f_AL_describe st (20 * a1.toNatClampNeg + 4 * a2.toNatClampNeg) a3 a4 a5), 1)
set_option maxRecDepth 100000 in
set_option maxHeartbeats 4000000 in
theorem z_BN_alarm {st : XS} {a1 : Int32} {a2 : Int32} {a3 : Int32} {a4 : Int32} {a5 : Int32} : bz (f_BN_alarm st a1 a2 a3 a4 a5).2 = (f_BN_alarm st a1 a2 a3 a4 a5).2 := by
  unfold f_BN_alarm
  repeat' split
  all_goals first | with_reducible exact bz_0 | with_reducible exact bz_1 | with_reducible exact bz_bz _ | with_reducible exact z_BN_isNumber | with_reducible exact z_BN_isOpen | with_reducible exact z_BN_isSpan | with_reducible exact z_DE_hasChannel
set_option maxRecDepth 100000 in
set_option maxHeartbeats 4000000 in
theorem fr_BN_alarm {st : XS} {a1 : Int32} {a2 : Int32} {a3 : Int32} {a4 : Int32} {a5 : Int32} {a' k' i' : Nat} (h : (a', k') ∉ ([(13, 0), (13, 1), (13, 2), (13, 3)] : List (Nat × Nat))) (h2 : a' ∉ ([] : List Nat)) : (f_BN_alarm st a1 a2 a3 a4 a5).1 a' k' i' = st a' k' i' := by
  unfold f_BN_alarm
  repeat' split
  all_goals (try dsimp only)
  all_goals (repeat (first | with_reducible rfl | rw [xu_f (fun e => h (by rw [e]; decide))] | rw [fr_AL_describe (fun q => h ((by decide : ∀ z ∈ ([(13, 0), (13, 1), (13, 2), (13, 3)] : List (Nat × Nat)), z ∈ ([(13, 0), (13, 1), (13, 2), (13, 3)] : List (Nat × Nat))) _ q)) (fun q => h2 ((by decide : ∀ z ∈ ([] : List Nat), z ∈ ([] : List Nat)) _ q))]))
theorem p_BN_alarm {st : XS} {a1 : Int32} {a2 : Int32} {a3 : Int32} {a4 : Int32} {a5 : Int32} (h : pok st) : pok (f_BN_alarm st a1 a2 a3 a4 a5).1 := pok_of h (fr_BN_alarm (by decide) (by decide)) (fun _ => fr_BN_alarm (by simp) (by decide))
set_option maxRecDepth 100000 in
set_option maxHeartbeats 4000000 in
theorem k_BN_alarm (l : Launch) (D : va_G) (cA : Nat → ClassId) (b : Nat) (st : XS) (a1 : Int32) (a2 : Int32) (a3 : Int32) (a4 : Int32) (a5 : Int32) (ho : dok st) : xMi cw D cA b l y_BN_alarm (Cond.code y_BN_alarm b_BN_alarm 6 (some .boolean)) { frames := 2, cells := 0, slots := 0, locals := 41 } st [.ref (b + 0), .int a1, .int a2, .int a3, .int a4, .int a5] (f_BN_alarm st a1 a2 a3 a4 a5).2 (f_BN_alarm st a1 a2 a3 a4 a5).1 := by
  refine xMi_of rfl (by decide) (Nat.le_of_ble_eq_true rfl) ?_
  intro p e s m below meth c ls C hlk hr hml hl hP hS
  have hl : lv_has ls 6 [(0, .ref (b + 0)), (1, .int a1), (2, .int a2), (3, .int a3), (4, .int a4), (5, .int a5)] := hl
  refine lv_aload_n C.1 C.2.1 d_BN_alarm_0 rfl (lv_at hl 0 rfl) ?_
  refine lv_iload_n C.1 C.2.1 d_BN_alarm_1 rfl (lv_at hl 1 rfl) ?_
  refine xcVi (rest := []) C hml hl.1 (k_BN_isOpen l D cA b st a1) q_BN_isOpen rfl rfl wg_424 wg_426 ws_1 ⟨Nat.le_of_ble_eq_true rfl, Nat.le_of_ble_eq_true rfl⟩ hP hS o_BN rfl c_BN rfl (Nat.le_of_ble_eq_true rfl) d_BN_alarm_2 rfl (fun H locs hP hS => ?_)
  refine lv_if_eq (tgt := 21) C.1 C.2.1 d_BN_alarm_5 (by decide) (fun h1 => ?_) (fun h1 => ?_)
  · refine lv_iconst (v := 0) C.1 C.2.1 d_BN_alarm_21 (by decide) ?_
    exact xrz C hlk hr bz_0 hP hS d_BN_alarm_22 ⟨by rw [f_BN_alarm, if_pos h1], by rw [f_BN_alarm, if_pos h1]⟩
  · refine lv_aload_n C.1 C.2.1 d_BN_alarm_8 rfl (lv_at hl 0 rfl) ?_
    refine xget C hP o_BN rfl c_BN (k := 0) (v := .ref (b + 1)) (by decide) wg_378 rfl d_BN_alarm_9 ?_
    refine lv_iload_n C.1 C.2.1 d_BN_alarm_12 rfl (lv_at hl 1 rfl) ?_
    refine xaald C hP o_da rfl (E := R_DE) rfl (v := b + (73 + 20 * a1.toNatClampNeg)) (vd_isOpen h1) rfl d_BN_alarm_13 ?_
    refine lv_iload_n C.1 C.2.1 d_BN_alarm_14 rfl (lv_at hl 2 rfl) ?_
    refine xcVNi (rest := []) C hml hl.1 (k_DE_hasChannel l D cA b st a1.toNatClampNeg (xin_lt (vd_isOpen h1)) a2) q_DE_hasChannel rfl rfl wn_428 wg_430 ws_2 ⟨Nat.le_of_ble_eq_true rfl, Nat.le_of_ble_eq_true rfl⟩ hP hS (o_DE (xin_lt (vd_isOpen h1))) rfl c_DE rfl (Nat.le_of_ble_eq_true rfl) d_BN_alarm_15 rfl (fun H locs hP hS => ?_)
    refine lv_if_ne (tgt := 23) C.1 C.2.1 d_BN_alarm_18 (by decide) (fun h2 => ?_) (fun h2 => ?_)
    · refine lv_iload_n C.1 C.2.1 d_BN_alarm_23 rfl (lv_at hl 3 rfl) ?_
      refine lv_iconst (v := 1) C.1 C.2.1 d_BN_alarm_24 (by decide) ?_
      refine lv_icmp_lt (tgt := 49) C.1 C.2.1 d_BN_alarm_25 (by decide) (fun h3 => ?_) (fun h3 => ?_)
      · refine lv_iconst (v := 0) C.1 C.2.1 d_BN_alarm_49 (by decide) ?_
        exact xrz C hlk hr bz_0 hP hS d_BN_alarm_50 ⟨by rw [f_BN_alarm, if_neg h1, if_neg h2, if_pos h3], by rw [f_BN_alarm, if_neg h1, if_neg h2, if_pos h3]⟩
      · refine lv_iload_n C.1 C.2.1 d_BN_alarm_28 rfl (lv_at hl 3 rfl) ?_
        refine lv_iconst (v := 3) C.1 C.2.1 d_BN_alarm_29 (by decide) ?_
        refine lv_icmp_gt (tgt := 49) C.1 C.2.1 d_BN_alarm_30 (by decide) (fun h4 => ?_) (fun h4 => ?_)
        · refine lv_iconst (v := 0) C.1 C.2.1 d_BN_alarm_49 (by decide) ?_
          exact xrz C hlk hr bz_0 hP hS d_BN_alarm_50 ⟨by rw [f_BN_alarm, if_neg h1, if_neg h2, if_neg h3, if_pos h4], by rw [f_BN_alarm, if_neg h1, if_neg h2, if_neg h3, if_pos h4]⟩
        · refine lv_iload C.1 C.2.1 d_BN_alarm_33 (lv_at hl 4 rfl) ?_
          refine xcSi (rest := []) C hml hl.1 (k_BN_isNumber l D cA b st a4) q_BN_isNumber rfl rfl wg_432 wg_433 ⟨Nat.le_of_ble_eq_true rfl, Nat.le_of_ble_eq_true rfl⟩ hP hS rfl (Nat.le_of_ble_eq_true rfl) d_BN_alarm_35 rfl (fun H locs hP hS => ?_)
          refine lv_if_eq (tgt := 49) C.1 C.2.1 d_BN_alarm_38 (by decide) (fun h5 => ?_) (fun h5 => ?_)
          · refine lv_iconst (v := 0) C.1 C.2.1 d_BN_alarm_49 (by decide) ?_
            exact xrz C hlk hr bz_0 hP hS d_BN_alarm_50 ⟨by rw [f_BN_alarm, if_neg h1, if_neg h2, if_neg h3, if_neg h4, if_pos h5], by rw [f_BN_alarm, if_neg h1, if_neg h2, if_neg h3, if_neg h4, if_pos h5]⟩
          · refine lv_iload C.1 C.2.1 d_BN_alarm_41 (lv_at hl 5 rfl) ?_
            refine xcSi (rest := []) C hml hl.1 (k_BN_isSpan l D cA b st a5) q_BN_isSpan rfl rfl wg_437 wg_438 ⟨Nat.le_of_ble_eq_true rfl, Nat.le_of_ble_eq_true rfl⟩ hP hS rfl (Nat.le_of_ble_eq_true rfl) d_BN_alarm_43 rfl (fun H locs hP hS => ?_)
            refine lv_if_ne (tgt := 51) C.1 C.2.1 d_BN_alarm_46 (by decide) (fun h6 => ?_) (fun h6 => ?_)
            · refine lv_aload_n C.1 C.2.1 d_BN_alarm_51 rfl (lv_at hl 0 rfl) ?_
              refine xget C hP o_BN rfl c_BN (k := 0) (v := .ref (b + 1)) (by decide) wg_378 rfl d_BN_alarm_52 ?_
              refine lv_iload_n C.1 C.2.1 d_BN_alarm_55 rfl (lv_at hl 1 rfl) ?_
              refine xaald C hP o_da rfl (E := R_DE) rfl (v := b + (73 + 20 * a1.toNatClampNeg)) (vd_isOpen h1) rfl d_BN_alarm_56 ?_
              refine xgetN C hP (o_DE (xin_lt (vd_isOpen h1))) rfl c_DE (k := 0) (v := .ref (b + (74 + 20 * a1.toNatClampNeg))) (by decide) wn_281 rfl d_BN_alarm_57 ?_
              refine lv_iload_n C.1 C.2.1 d_BN_alarm_60 rfl (lv_at hl 2 rfl) ?_
              refine xaald C hP (o_ca (xin_lt (vd_isOpen h1))) rfl (E := R_CH) rfl (v := b + (77 + (20 * a1.toNatClampNeg + 4 * a2.toNatClampNeg))) (vd_hasChannel h2 (ho _ (xin_lt (vd_isOpen h1)))) rfl d_BN_alarm_61 ?_
              refine xgetN C hP (o_CH (cix_of (xin_lt (vd_isOpen h1)) (xin_lt (vd_hasChannel h2 (ho _ (xin_lt (vd_isOpen h1))))))) rfl c_CH (k := 1) (v := .ref (b + (79 + (20 * a1.toNatClampNeg + 4 * a2.toNatClampNeg)))) (by decide) wn_243 rfl d_BN_alarm_62 ?_
              refine lv_iload_n C.1 C.2.1 d_BN_alarm_65 rfl (lv_at hl 3 rfl) ?_
              refine lv_iload C.1 C.2.1 d_BN_alarm_66 (lv_at hl 4 rfl) ?_
              refine lv_iload C.1 C.2.1 d_BN_alarm_68 (lv_at hl 5 rfl) ?_
              refine xcVNv (rest := []) C hml hl.1 (k_AL_describe l D cA b st (79 + (20 * a1.toNatClampNeg + 4 * a2.toNatClampNeg)) (20 * a1.toNatClampNeg + 4 * a2.toNatClampNeg) (o_AL (cix_of (xin_lt (vd_isOpen h1)) (xin_lt (vd_hasChannel h2 (ho _ (xin_lt (vd_isOpen h1))))))) a3 a4 a5) q_AL_describe rfl rfl wn_440 wg_442 ws_3 ⟨Nat.le_of_ble_eq_true rfl, Nat.le_of_ble_eq_true rfl⟩ hP hS (o_AL (cix_of (xin_lt (vd_isOpen h1)) (xin_lt (vd_hasChannel h2 (ho _ (xin_lt (vd_isOpen h1))))))) rfl c_AL rfl (Nat.le_of_ble_eq_true rfl) d_BN_alarm_70 rfl (fun H locs hP hS => ?_)
              refine lv_iconst (v := 1) C.1 C.2.1 d_BN_alarm_73 (by decide) ?_
              exact xrz C hlk hr bz_1 hP hS d_BN_alarm_74 ⟨by rw [f_BN_alarm, if_neg h1, if_neg h2, if_neg h3, if_neg h4, if_neg h5, if_neg h6], by rw [f_BN_alarm, if_neg h1, if_neg h2, if_neg h3, if_neg h4, if_neg h5, if_neg h6]⟩
            · refine lv_iconst (v := 0) C.1 C.2.1 d_BN_alarm_49 (by decide) ?_
              exact xrz C hlk hr bz_0 hP hS d_BN_alarm_50 ⟨by rw [f_BN_alarm, if_neg h1, if_neg h2, if_neg h3, if_neg h4, if_neg h5, if_pos h6], by rw [f_BN_alarm, if_neg h1, if_neg h2, if_neg h3, if_neg h4, if_neg h5, if_pos h6]⟩
    · refine lv_iconst (v := 0) C.1 C.2.1 d_BN_alarm_21 (by decide) ?_
      exact xrz C hlk hr bz_0 hP hS d_BN_alarm_22 ⟨by rw [f_BN_alarm, if_neg h1, if_pos h2], by rw [f_BN_alarm, if_neg h1, if_pos h2]⟩
