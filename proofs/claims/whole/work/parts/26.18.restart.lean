def f_BN_restart (st : XS) (a1 : Int32) : XS × Int32 :=
  if (f_BN_isSealed st a1) = 0 then (st, 0)
  else ((f_DE_beginLife st a1.toNatClampNeg), 1)
set_option maxRecDepth 100000 in
set_option maxHeartbeats 4000000 in
theorem z_BN_restart {st : XS} {a1 : Int32} : bz (f_BN_restart st a1).2 = (f_BN_restart st a1).2 := by
  unfold f_BN_restart
  repeat' split
  all_goals first | with_reducible exact bz_0 | with_reducible exact bz_1 | with_reducible exact bz_bz _ | with_reducible exact z_BN_isSealed
set_option maxRecDepth 100000 in
set_option maxHeartbeats 4000000 in
theorem fr_BN_restart {st : XS} {a1 : Int32} {a' k' i' : Nat} (h : (a', k') ∉ ([(8, 4), (8, 6), (8, 7), (10, 3), (10, 5), (12, 4), (13, 4), (13, 6), (13, 7), (13, 8)] : List (Nat × Nat))) (h2 : a' ∉ ([] : List Nat)) : (f_BN_restart st a1).1 a' k' i' = st a' k' i' := by
  unfold f_BN_restart
  repeat' split
  all_goals (try dsimp only)
  all_goals (repeat (first | with_reducible rfl | rw [xu_f (fun e => h (by rw [e]; decide))] | rw [fr_DE_beginLife (fun q => h ((by decide : ∀ z ∈ ([(8, 4), (8, 6), (8, 7), (10, 3), (10, 5), (12, 4), (13, 4), (13, 6), (13, 7), (13, 8)] : List (Nat × Nat)), z ∈ ([(8, 4), (8, 6), (8, 7), (10, 3), (10, 5), (12, 4), (13, 4), (13, 6), (13, 7), (13, 8)] : List (Nat × Nat))) _ q)) (fun q => h2 ((by decide : ∀ z ∈ ([] : List Nat), z ∈ ([] : List Nat)) _ q))]))
theorem p_BN_restart {st : XS} {a1 : Int32} (h : pok st) : pok (f_BN_restart st a1).1 := pok_of h (fr_BN_restart (by decide) (by decide)) (fun _ => fr_BN_restart (by simp) (by decide))
set_option maxRecDepth 100000 in
set_option maxHeartbeats 4000000 in
theorem k_BN_restart (l : Launch) (D : va_G) (cA : Nat → ClassId) (b : Nat) (st : XS) (a1 : Int32) (ho : dok st) : xMi cw D cA b l y_BN_restart (Cond.code y_BN_restart b_BN_restart 2 (some .boolean)) { frames := 3, cells := 0, slots := 0, locals := 61 } st [.ref (b + 0), .int a1] (f_BN_restart st a1).2 (f_BN_restart st a1).1 := by
  refine xMi_of rfl (by decide) (Nat.le_of_ble_eq_true rfl) ?_
  intro p e s m below meth c ls C hlk hr hml hl hP hS
  have hl : lv_has ls 2 [(0, .ref (b + 0)), (1, .int a1)] := hl
  refine lv_aload_n C.1 C.2.1 d_BN_restart_0 rfl (lv_at hl 0 rfl) ?_
  refine lv_iload_n C.1 C.2.1 d_BN_restart_1 rfl (lv_at hl 1 rfl) ?_
  refine xcVi (rest := []) C hml hl.1 (k_BN_isSealed l D cA b st a1) q_BN_isSealed rfl rfl wg_467 wg_469 ws_6 ⟨Nat.le_of_ble_eq_true rfl, Nat.le_of_ble_eq_true rfl⟩ hP hS o_BN rfl c_BN rfl (Nat.le_of_ble_eq_true rfl) d_BN_restart_2 rfl (fun H locs hP hS => ?_)
  refine lv_if_ne (tgt := 10) C.1 C.2.1 d_BN_restart_5 (by decide) (fun h1 => ?_) (fun h1 => ?_)
  · refine lv_aload_n C.1 C.2.1 d_BN_restart_10 rfl (lv_at hl 0 rfl) ?_
    refine xget C hP o_BN rfl c_BN (k := 0) (v := .ref (b + 1)) (by decide) wg_378 rfl d_BN_restart_11 ?_
    refine lv_iload_n C.1 C.2.1 d_BN_restart_14 rfl (lv_at hl 1 rfl) ?_
    refine xaald C hP o_da rfl (E := R_DE) rfl (v := b + (73 + 20 * a1.toNatClampNeg)) (vd_isSealed h1) rfl d_BN_restart_15 ?_
    refine xcVNv (rest := []) C hml hl.1 (k_DE_beginLife l D cA b st a1.toNatClampNeg (xin_lt (vd_isSealed h1)) (ho _ (xin_lt (vd_isSealed h1)))) q_DE_beginLife rfl rfl wn_613 wg_615 ws_31 ⟨Nat.le_of_ble_eq_true rfl, Nat.le_of_ble_eq_true rfl⟩ hP hS (o_DE (xin_lt (vd_isSealed h1))) rfl c_DE rfl (Nat.le_of_ble_eq_true rfl) d_BN_restart_16 rfl (fun H locs hP hS => ?_)
    refine lv_iconst (v := 1) C.1 C.2.1 d_BN_restart_19 (by decide) ?_
    exact xrz C hlk hr bz_1 hP hS d_BN_restart_20 ⟨by rw [f_BN_restart, if_neg h1], by rw [f_BN_restart, if_neg h1]⟩
  · refine lv_iconst (v := 0) C.1 C.2.1 d_BN_restart_8 (by decide) ?_
    exact xrz C hlk hr bz_0 hP hS d_BN_restart_9 ⟨by rw [f_BN_restart, if_pos h1], by rw [f_BN_restart, if_pos h1]⟩
