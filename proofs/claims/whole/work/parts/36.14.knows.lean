def f_MO_knows (st : XS) (a1 : Int32) (a2 : Int32) (a3 : Int32) (a4 : Int32) : XS :=
  if (st 34 a3.toNatClampNeg 0) < a1 then (if a4 = 1 then (f_MO_sendSounds (xu (xu st 34 a3.toNatClampNeg 0 a1) 33 a3.toNatClampNeg 0 2) a2)
    else (xu (xu st 34 a3.toNatClampNeg 0 a1) 33 a3.toNatClampNeg 0 1))
  else if (st 33 a3.toNatClampNeg 0) ≤ 0 then (if a4 = 1 then (f_MO_sendSounds (xu (xu st 34 a3.toNatClampNeg 0 a1) 33 a3.toNatClampNeg 0 2) a2)
    else (xu (xu st 34 a3.toNatClampNeg 0 a1) 33 a3.toNatClampNeg 0 1))
  else st
set_option maxRecDepth 100000 in
set_option maxHeartbeats 4000000 in
theorem fr_MO_knows {st : XS} {a1 : Int32} {a2 : Int32} {a3 : Int32} {a4 : Int32} {a' k' i' : Nat} (h : (a', k') ∉ ([(0, 2), (0, 3), (0, 39)] : List (Nat × Nat))) (h2 : a' ∉ ([33, 34, 35, 36, 37, 38, 39, 40, 41, 42, 43] : List Nat)) : (f_MO_knows st a1 a2 a3 a4) a' k' i' = st a' k' i' := by
  unfold f_MO_knows
  repeat' split
  all_goals (try dsimp only)
  all_goals (repeat (first | with_reducible rfl | rw [xu_f (fun e => h (by rw [e]; decide))] | rw [xu_a (fun e => h2 (by rw [e]; decide))] | rw [fr_MO_sendSounds (fun q => h ((by decide : ∀ z ∈ ([(0, 2), (0, 3), (0, 39)] : List (Nat × Nat)), z ∈ ([(0, 2), (0, 3), (0, 39)] : List (Nat × Nat))) _ q)) (fun q => h2 ((by decide : ∀ z ∈ ([35, 36, 37, 38, 39, 40, 41, 42, 43] : List Nat), z ∈ ([33, 34, 35, 36, 37, 38, 39, 40, 41, 42, 43] : List Nat)) _ q))]))
theorem p_MO_knows {st : XS} {a1 : Int32} {a2 : Int32} {a3 : Int32} {a4 : Int32} (h : qok st) : qok (f_MO_knows st a1 a2 a3 a4) := by
  unfold f_MO_knows
  repeat' split
  all_goals (try dsimp only)
  all_goals (repeat (first | with_reducible assumption | with_reducible refine p_MO_sendSounds ?_ | with_reducible refine qok_xa ?_ (by decide) | with_reducible refine qok_xu ?_ ?_ | decide))
set_option maxRecDepth 100000 in
set_option maxHeartbeats 4000000 in
theorem k_MO_knows (l : Launch) (D : va_G) (cA : Nat → ClassId) (b : Nat) (st : XS) (a1 : Int32) (a2 : Int32) (a3 : Int32) (a4 : Int32) (hq : qok st) (hd2 : vp_in a2 8) (hk3 : vp_in a3 32) : xMv mw D cA b l y_MO_knows (Cond.code y_MO_knows b_MO_knows 5 none) { frames := 2, cells := 0, slots := 0, locals := 46 } st [.ref (b + 0), .int a1, .int a2, .int a3, .int a4] (f_MO_knows st a1 a2 a3 a4) := by
  refine xMv_of rfl (by decide) (Nat.le_of_ble_eq_true rfl) ?_
  intro p e s m below meth c ls C hlk hr hml hl hP hS
  have hl : lv_has ls 5 [(0, .ref (b + 0)), (1, .int a1), (2, .int a2), (3, .int a3), (4, .int a4)] := hl
  refine lv_iload_n C.1 C.2.1 d_MO_knows_0 rfl (lv_at hl 1 rfl) ?_
  refine lv_aload_n C.1 C.2.1 d_MO_knows_1 rfl (lv_at hl 0 rfl) ?_
  refine xget C hP o_MO rfl c_MO (k := 37) (v := .ref (b + 34)) (by decide) wg_914 rfl d_MO_knows_2 ?_
  refine lv_iload_n C.1 C.2.1 d_MO_knows_5 rfl (lv_at hl 3 rfl) ?_
  refine xiald C hP om_34 rfl (v := (st 34 a3.toNatClampNeg 0)) hk3 rfl d_MO_knows_6 ?_
  refine lv_icmp_gt (tgt := 20) C.1 C.2.1 d_MO_knows_7 (by decide) (fun h1 => ?_) (fun h1 => ?_)
  · refine lv_aload_n C.1 C.2.1 d_MO_knows_20 rfl (lv_at hl 0 rfl) ?_
    refine xget C hP o_MO rfl c_MO (k := 37) (v := .ref (b + 34)) (by decide) wg_914 rfl d_MO_knows_21 ?_
    refine lv_iload_n C.1 C.2.1 d_MO_knows_24 rfl (lv_at hl 3 rfl) ?_
    refine lv_iload_n C.1 C.2.1 d_MO_knows_25 rfl (lv_at hl 1 rfl) ?_
    refine xiast mw_inj C hP hS om_34 rfl hk3 rfl d_MO_knows_26 (fun H locs hP hS => ?_)
    refine lv_aload_n C.1 C.2.1 d_MO_knows_27 rfl (lv_at hl 0 rfl) ?_
    refine xget C hP o_MO rfl c_MO (k := 36) (v := .ref (b + 33)) (by decide) wg_913 rfl d_MO_knows_28 ?_
    refine lv_iload_n C.1 C.2.1 d_MO_knows_31 rfl (lv_at hl 3 rfl) ?_
    refine lv_iload C.1 C.2.1 d_MO_knows_32 (lv_at hl 4 rfl) ?_
    refine lv_iconst (v := 1) C.1 C.2.1 d_MO_knows_34 (by decide) ?_
    refine lv_icmp_ne (tgt := 42) C.1 C.2.1 d_MO_knows_35 (by decide) (fun h2 => ?_) (fun h2 => ?_)
    · refine lv_iconst (v := 1) C.1 C.2.1 d_MO_knows_42 (by decide) ?_
      refine xiast mw_inj C hP hS om_33 rfl hk3 rfl d_MO_knows_43 (fun H locs hP hS => ?_)
      refine lv_iload C.1 C.2.1 d_MO_knows_44 (lv_at hl 4 rfl) ?_
      refine lv_iconst (v := 1) C.1 C.2.1 d_MO_knows_46 (by decide) ?_
      refine lv_icmp_ne (tgt := 55) C.1 C.2.1 d_MO_knows_47 (by decide) (fun _ => ?_) (fun h => absurd h h2)
      exact xrv C hlk hr hP hS d_MO_knows_55 (by rw [f_MO_knows, if_pos h1, if_neg h2])
    · refine lv_iconst (v := 2) C.1 C.2.1 d_MO_knows_38 (by decide) ?_
      refine lv_goto (tgt := 43) C.1 C.2.1 d_MO_knows_39 (by decide) ?_
      refine xiast mw_inj C hP hS om_33 rfl hk3 rfl d_MO_knows_43 (fun H locs hP hS => ?_)
      refine lv_iload C.1 C.2.1 d_MO_knows_44 (lv_at hl 4 rfl) ?_
      refine lv_iconst (v := 1) C.1 C.2.1 d_MO_knows_46 (by decide) ?_
      refine lv_icmp_ne (tgt := 55) C.1 C.2.1 d_MO_knows_47 (by decide) (fun h => absurd h2 h) (fun _ => ?_)
      refine lv_aload_n C.1 C.2.1 d_MO_knows_50 rfl (lv_at hl 0 rfl) ?_
      refine lv_iload_n C.1 C.2.1 d_MO_knows_51 rfl (lv_at hl 2 rfl) ?_
      refine xcVv (rest := []) C hml hl.1 (k_MO_sendSounds l D cA b (xu (xu st 34 a3.toNatClampNeg 0 a1) 33 a3.toNatClampNeg 0 2) a2 (qok_xa (qok_xa hq (by decide)) (by decide)) hd2) q_MO_sendSounds rfl rfl wg_1167 wg_1169 ws_63 ⟨Nat.le_of_ble_eq_true rfl, Nat.le_of_ble_eq_true rfl⟩ hP hS o_MO rfl c_MO rfl (Nat.le_of_ble_eq_true rfl) d_MO_knows_52 rfl (fun H locs hP hS => ?_)
      exact xrv C hlk hr hP hS d_MO_knows_55 (by rw [f_MO_knows, if_pos h1, if_pos h2])
  · refine lv_aload_n C.1 C.2.1 d_MO_knows_10 rfl (lv_at hl 0 rfl) ?_
    refine xget C hP o_MO rfl c_MO (k := 36) (v := .ref (b + 33)) (by decide) wg_913 rfl d_MO_knows_11 ?_
    refine lv_iload_n C.1 C.2.1 d_MO_knows_14 rfl (lv_at hl 3 rfl) ?_
    refine xiald C hP om_33 rfl (v := (st 33 a3.toNatClampNeg 0)) hk3 rfl d_MO_knows_15 ?_
    refine lv_if_le (tgt := 20) C.1 C.2.1 d_MO_knows_16 (by decide) (fun h3 => ?_) (fun h3 => ?_)
    · refine lv_aload_n C.1 C.2.1 d_MO_knows_20 rfl (lv_at hl 0 rfl) ?_
      refine xget C hP o_MO rfl c_MO (k := 37) (v := .ref (b + 34)) (by decide) wg_914 rfl d_MO_knows_21 ?_
      refine lv_iload_n C.1 C.2.1 d_MO_knows_24 rfl (lv_at hl 3 rfl) ?_
      refine lv_iload_n C.1 C.2.1 d_MO_knows_25 rfl (lv_at hl 1 rfl) ?_
      refine xiast mw_inj C hP hS om_34 rfl hk3 rfl d_MO_knows_26 (fun H locs hP hS => ?_)
      refine lv_aload_n C.1 C.2.1 d_MO_knows_27 rfl (lv_at hl 0 rfl) ?_
      refine xget C hP o_MO rfl c_MO (k := 36) (v := .ref (b + 33)) (by decide) wg_913 rfl d_MO_knows_28 ?_
      refine lv_iload_n C.1 C.2.1 d_MO_knows_31 rfl (lv_at hl 3 rfl) ?_
      refine lv_iload C.1 C.2.1 d_MO_knows_32 (lv_at hl 4 rfl) ?_
      refine lv_iconst (v := 1) C.1 C.2.1 d_MO_knows_34 (by decide) ?_
      refine lv_icmp_ne (tgt := 42) C.1 C.2.1 d_MO_knows_35 (by decide) (fun h4 => ?_) (fun h4 => ?_)
      · refine lv_iconst (v := 1) C.1 C.2.1 d_MO_knows_42 (by decide) ?_
        refine xiast mw_inj C hP hS om_33 rfl hk3 rfl d_MO_knows_43 (fun H locs hP hS => ?_)
        refine lv_iload C.1 C.2.1 d_MO_knows_44 (lv_at hl 4 rfl) ?_
        refine lv_iconst (v := 1) C.1 C.2.1 d_MO_knows_46 (by decide) ?_
        refine lv_icmp_ne (tgt := 55) C.1 C.2.1 d_MO_knows_47 (by decide) (fun _ => ?_) (fun h => absurd h h4)
        exact xrv C hlk hr hP hS d_MO_knows_55 (by rw [f_MO_knows, if_neg h1, if_pos h3, if_neg h4])
      · refine lv_iconst (v := 2) C.1 C.2.1 d_MO_knows_38 (by decide) ?_
        refine lv_goto (tgt := 43) C.1 C.2.1 d_MO_knows_39 (by decide) ?_
        refine xiast mw_inj C hP hS om_33 rfl hk3 rfl d_MO_knows_43 (fun H locs hP hS => ?_)
        refine lv_iload C.1 C.2.1 d_MO_knows_44 (lv_at hl 4 rfl) ?_
        refine lv_iconst (v := 1) C.1 C.2.1 d_MO_knows_46 (by decide) ?_
        refine lv_icmp_ne (tgt := 55) C.1 C.2.1 d_MO_knows_47 (by decide) (fun h => absurd h4 h) (fun _ => ?_)
        refine lv_aload_n C.1 C.2.1 d_MO_knows_50 rfl (lv_at hl 0 rfl) ?_
        refine lv_iload_n C.1 C.2.1 d_MO_knows_51 rfl (lv_at hl 2 rfl) ?_
        refine xcVv (rest := []) C hml hl.1 (k_MO_sendSounds l D cA b (xu (xu st 34 a3.toNatClampNeg 0 a1) 33 a3.toNatClampNeg 0 2) a2 (qok_xa (qok_xa hq (by decide)) (by decide)) hd2) q_MO_sendSounds rfl rfl wg_1167 wg_1169 ws_63 ⟨Nat.le_of_ble_eq_true rfl, Nat.le_of_ble_eq_true rfl⟩ hP hS o_MO rfl c_MO rfl (Nat.le_of_ble_eq_true rfl) d_MO_knows_52 rfl (fun H locs hP hS => ?_)
        exact xrv C hlk hr hP hS d_MO_knows_55 (by rw [f_MO_knows, if_neg h1, if_pos h3, if_pos h4])
    · exact xrv C hlk hr hP hS d_MO_knows_19 (by rw [f_MO_knows, if_neg h1, if_neg h3])
