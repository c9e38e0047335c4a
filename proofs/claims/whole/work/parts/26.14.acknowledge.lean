def f_BN_acknowledge (st : XS) (a1 : Int32) (a2 : Int32) : XS × Int32 :=
  if (f_BN_isDevice a1) = 0 then (st, 0)
  else if (f_DE_hasChannel st a1.toNatClampNeg a2) = 0 then (st, 0)
  else if (f_KN_sounds st (20 * a1.toNatClampNeg + 4 * a2.toNatClampNeg)) = 0 then (st, 0)
  else ((f_BN_send (xu st 14 2 (20 * a1.toNatClampNeg + 4 * a2.toNatClampNeg) 1) 4 a1 a2 0), 1)
set_option maxRecDepth 100000 in
set_option maxHeartbeats 4000000 in
theorem z_BN_acknowledge {st : XS} {a1 : Int32} {a2 : Int32} : bz (f_BN_acknowledge st a1 a2).2 = (f_BN_acknowledge st a1 a2).2 := by
  unfold f_BN_acknowledge
  repeat' split
  all_goals first | with_reducible exact bz_0 | with_reducible exact bz_1 | with_reducible exact bz_bz _ | with_reducible exact z_BN_isDevice | with_reducible exact z_DE_hasChannel | with_reducible exact z_KN_sounds
set_option maxRecDepth 100000 in
set_option maxHeartbeats 4000000 in
theorem fr_BN_acknowledge {st : XS} {a1 : Int32} {a2 : Int32} {a' k' i' : Nat} (h : (a', k') ∉ ([(5, 1), (5, 2), (5, 3), (7, 0), (7, 1), (7, 2), (7, 3), (7, 4), (7, 5), (7, 6), (7, 7), (14, 2)] : List (Nat × Nat))) (h2 : a' ∉ ([] : List Nat)) : (f_BN_acknowledge st a1 a2).1 a' k' i' = st a' k' i' := by
  unfold f_BN_acknowledge
  repeat' split
  all_goals (try dsimp only)
  all_goals (repeat (first | with_reducible rfl | rw [xu_f (fun e => h (by rw [e]; decide))] | rw [fr_BN_send (fun q => h ((by decide : ∀ z ∈ ([(5, 1), (5, 2), (5, 3), (7, 0), (7, 1), (7, 2), (7, 3), (7, 4), (7, 5), (7, 6), (7, 7)] : List (Nat × Nat)), z ∈ ([(5, 1), (5, 2), (5, 3), (7, 0), (7, 1), (7, 2), (7, 3), (7, 4), (7, 5), (7, 6), (7, 7), (14, 2)] : List (Nat × Nat))) _ q)) (fun q => h2 ((by decide : ∀ z ∈ ([] : List Nat), z ∈ ([] : List Nat)) _ q))]))
theorem p_BN_acknowledge {st : XS} {a1 : Int32} {a2 : Int32} (h : pok st) : pok (f_BN_acknowledge st a1 a2).1 := by
  unfold f_BN_acknowledge
  repeat' split
  all_goals (try dsimp only)
  all_goals (repeat (first | with_reducible assumption | with_reducible refine p_BN_send ?_ | with_reducible refine pok_xu ?_ ?_ ?_ | with_reducible refine pok_x5 ?_ ?_ | decide))
set_option maxRecDepth 100000 in
set_option maxHeartbeats 4000000 in
theorem k_BN_acknowledge (l : Launch) (D : va_G) (cA : Nat → ClassId) (b : Nat) (st : XS) (a1 : Int32) (a2 : Int32) (hp : pok st) (ho : dok st) : xMi cw D cA b l y_BN_acknowledge (Cond.code y_BN_acknowledge b_BN_acknowledge 4 (some .boolean)) { frames := 2, cells := 0, slots := 0, locals := 52 } st [.ref (b + 0), .int a1, .int a2] (f_BN_acknowledge st a1 a2).2 (f_BN_acknowledge st a1 a2).1 := by
  refine xMi_of rfl (by decide) (Nat.le_of_ble_eq_true rfl) ?_
  intro p e s m below meth c ls C hlk hr hml hl hP hS
  have hl : lv_has ls 4 [(0, .ref (b + 0)), (1, .int a1), (2, .int a2)] := hl
  refine lv_iload_n C.1 C.2.1 d_BN_acknowledge_0 rfl (lv_at hl 1 rfl) ?_
  refine xcSi (rest := []) C hml hl.1 (k_BN_isDevice l D cA b st a1) q_BN_isDevice rfl rfl wg_410 wg_411 ⟨Nat.le_of_ble_eq_true rfl, Nat.le_of_ble_eq_true rfl⟩ hP hS rfl (Nat.le_of_ble_eq_true rfl) d_BN_acknowledge_1 rfl (fun H locs hP hS => ?_)
  refine lv_if_eq (tgt := 20) C.1 C.2.1 d_BN_acknowledge_4 (by decide) (fun h1 => ?_) (fun h1 => ?_)
  · refine lv_iconst (v := 0) C.1 C.2.1 d_BN_acknowledge_20 (by decide) ?_
    exact xrz C hlk hr bz_0 hP hS d_BN_acknowledge_21 ⟨by rw [f_BN_acknowledge, if_pos h1], by rw [f_BN_acknowledge, if_pos h1]⟩
  · refine lv_aload_n C.1 C.2.1 d_BN_acknowledge_7 rfl (lv_at hl 0 rfl) ?_
    refine xget C hP o_BN rfl c_BN (k := 0) (v := .ref (b + 1)) (by decide) wg_378 rfl d_BN_acknowledge_8 ?_
    refine lv_iload_n C.1 C.2.1 d_BN_acknowledge_11 rfl (lv_at hl 1 rfl) ?_
    refine xaald C hP o_da rfl (E := R_DE) rfl (v := b + (73 + 20 * a1.toNatClampNeg)) (vd_isDevice h1) rfl d_BN_acknowledge_12 ?_
    refine lv_iload_n C.1 C.2.1 d_BN_acknowledge_13 rfl (lv_at hl 2 rfl) ?_
    refine xcVNi (rest := []) C hml hl.1 (k_DE_hasChannel l D cA b st a1.toNatClampNeg (xin_lt (vd_isDevice h1)) a2) q_DE_hasChannel rfl rfl wn_428 wg_430 ws_2 ⟨Nat.le_of_ble_eq_true rfl, Nat.le_of_ble_eq_true rfl⟩ hP hS (o_DE (xin_lt (vd_isDevice h1))) rfl c_DE rfl (Nat.le_of_ble_eq_true rfl) d_BN_acknowledge_14 rfl (fun H locs hP hS => ?_)
    refine lv_if_ne (tgt := 22) C.1 C.2.1 d_BN_acknowledge_17 (by decide) (fun h2 => ?_) (fun h2 => ?_)
    · refine lv_aload_n C.1 C.2.1 d_BN_acknowledge_22 rfl (lv_at hl 0 rfl) ?_
      refine xget C hP o_BN rfl c_BN (k := 0) (v := .ref (b + 1)) (by decide) wg_378 rfl d_BN_acknowledge_23 ?_
      refine lv_iload_n C.1 C.2.1 d_BN_acknowledge_26 rfl (lv_at hl 1 rfl) ?_
      refine xaald C hP o_da rfl (E := R_DE) rfl (v := b + (73 + 20 * a1.toNatClampNeg)) (vd_isDevice h1) rfl d_BN_acknowledge_27 ?_
      refine xgetN C hP (o_DE (xin_lt (vd_isDevice h1))) rfl c_DE (k := 0) (v := .ref (b + (74 + 20 * a1.toNatClampNeg))) (by decide) wn_281 rfl d_BN_acknowledge_28 ?_
      refine lv_iload_n C.1 C.2.1 d_BN_acknowledge_31 rfl (lv_at hl 2 rfl) ?_
      refine xaald C hP (o_ca (xin_lt (vd_isDevice h1))) rfl (E := R_CH) rfl (v := b + (77 + (20 * a1.toNatClampNeg + 4 * a2.toNatClampNeg))) (vd_hasChannel h2 (ho _ (xin_lt (vd_isDevice h1)))) rfl d_BN_acknowledge_32 ?_
      refine xgetN C hP (o_CH (cix_of (xin_lt (vd_isDevice h1)) (xin_lt (vd_hasChannel h2 (ho _ (xin_lt (vd_isDevice h1))))))) rfl c_CH (k := 2) (v := .ref (b + (80 + (20 * a1.toNatClampNeg + 4 * a2.toNatClampNeg)))) (by decide) wn_247 rfl d_BN_acknowledge_33 ?_
      refine lv_astore_n C.1 C.2.1 d_BN_acknowledge_36 rfl hl (by decide) rfl (fun ls hl => ?_)
      have hl : lv_has ls 4 [(3, .ref (b + (80 + (20 * a1.toNatClampNeg + 4 * a2.toNatClampNeg)))), (0, .ref (b + 0)), (1, .int a1), (2, .int a2)] := hl
      refine lv_aload_n C.1 C.2.1 d_BN_acknowledge_37 rfl (lv_at hl 0 rfl) ?_
      refine xcVNi (rest := []) C hml hl.1 (k_KN_sounds l D cA b st (80 + (20 * a1.toNatClampNeg + 4 * a2.toNatClampNeg)) (20 * a1.toNatClampNeg + 4 * a2.toNatClampNeg) (o_KN (cix_of (xin_lt (vd_isDevice h1)) (xin_lt (vd_hasChannel h2 (ho _ (xin_lt (vd_isDevice h1)))))))) q_KN_sounds rfl rfl wn_586 wg_588 ws_29 ⟨Nat.le_of_ble_eq_true rfl, Nat.le_of_ble_eq_true rfl⟩ hP hS (o_KN (cix_of (xin_lt (vd_isDevice h1)) (xin_lt (vd_hasChannel h2 (ho _ (xin_lt (vd_isDevice h1))))))) rfl c_KN rfl (Nat.le_of_ble_eq_true rfl) d_BN_acknowledge_38 rfl (fun H locs hP hS => ?_)
      refine lv_if_ne (tgt := 46) C.1 C.2.1 d_BN_acknowledge_41 (by decide) (fun h3 => ?_) (fun h3 => ?_)
      · refine lv_aload_n C.1 C.2.1 d_BN_acknowledge_46 rfl (lv_at hl 0 rfl) ?_
        refine lv_iconst (v := 1) C.1 C.2.1 d_BN_acknowledge_47 (by decide) ?_
        refine xputNz cw_inj C hP hS (o_KN (cix_of (xin_lt (vd_isDevice h1)) (xin_lt (vd_hasChannel h2 (ho _ (xin_lt (vd_isDevice h1))))))) rfl c_KN (k := 2) (x := 1) (by decide) wn_231 rfl bz_1 rfl rfl d_BN_acknowledge_48 (fun H locs hP hS => ?_)
        refine lv_aload_n C.1 C.2.1 d_BN_acknowledge_51 rfl (lv_at hl 1 rfl) ?_
        refine lv_iconst (v := 4) C.1 C.2.1 d_BN_acknowledge_52 (by decide) ?_
        refine lv_iload_n C.1 C.2.1 d_BN_acknowledge_53 rfl (lv_at hl 2 rfl) ?_
        refine lv_iload_n C.1 C.2.1 d_BN_acknowledge_54 rfl (lv_at hl 3 rfl) ?_
        refine lv_iconst (v := 0) C.1 C.2.1 d_BN_acknowledge_55 (by decide) ?_
        refine xcVv (rest := []) C hml hl.1 (k_BN_send l D cA b (xu st 14 2 (20 * a1.toNatClampNeg + 4 * a2.toNatClampNeg) 1) 4 a1 a2 0 (pok_xu hp (by decide) (by decide)) (vd_isDevice h1)) q_BN_send rfl rfl wg_518 wg_520 ws_15 ⟨Nat.le_of_ble_eq_true rfl, Nat.le_of_ble_eq_true rfl⟩ hP hS o_BN rfl c_BN rfl (Nat.le_of_ble_eq_true rfl) d_BN_acknowledge_56 rfl (fun H locs hP hS => ?_)
        refine lv_iconst (v := 1) C.1 C.2.1 d_BN_acknowledge_59 (by decide) ?_
        exact xrz C hlk hr bz_1 hP hS d_BN_acknowledge_60 ⟨by rw [f_BN_acknowledge, if_neg h1, if_neg h2, if_neg h3], by rw [f_BN_acknowledge, if_neg h1, if_neg h2, if_neg h3]⟩
      · refine lv_iconst (v := 0) C.1 C.2.1 d_BN_acknowledge_44 (by decide) ?_
        exact xrz C hlk hr bz_0 hP hS d_BN_acknowledge_45 ⟨by rw [f_BN_acknowledge, if_neg h1, if_neg h2, if_pos h3], by rw [f_BN_acknowledge, if_neg h1, if_neg h2, if_pos h3]⟩
    · refine lv_iconst (v := 0) C.1 C.2.1 d_BN_acknowledge_20 (by decide) ?_
      exact xrz C hlk hr bz_0 hP hS d_BN_acknowledge_21 ⟨by rw [f_BN_acknowledge, if_neg h1, if_pos h2], by rw [f_BN_acknowledge, if_neg h1, if_pos h2]⟩
