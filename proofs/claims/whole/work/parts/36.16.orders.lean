def f_MO_orders (st : XS) (a1 : Int32) (a2 : Int32) (a3 : Int32) : XS :=
  if 0 ≤ (st 54 a2.toNatClampNeg 0) then (f_MO_send st 6 a1 a2 (st 54 a2.toNatClampNeg 0) 0)
  else if (f_MO_judged st a1 a2 a3) = 0 then (f_MO_send (xu (xu st 54 a2.toNatClampNeg 0 (f_MO_judged st a1 a2 a3)) 12 a1.toNatClampNeg 0 (st 52 a2.toNatClampNeg 0)) 6 a1 a2 (f_MO_judged st a1 a2 a3) 0)
  else (f_MO_send (xu st 54 a2.toNatClampNeg 0 (f_MO_judged st a1 a2 a3)) 6 a1 a2 (f_MO_judged st a1 a2 a3) 0)
set_option maxRecDepth 100000 in
set_option maxHeartbeats 4000000 in
theorem fr_MO_orders {st : XS} {a1 : Int32} {a2 : Int32} {a3 : Int32} {a' k' i' : Nat} (h : (a', k') ∉ ([(0, 2), (0, 3), (0, 39)] : List (Nat × Nat))) (h2 : a' ∉ ([12, 36, 37, 38, 39, 40, 41, 42, 43, 54] : List Nat)) : (f_MO_orders st a1 a2 a3) a' k' i' = st a' k' i' := by
  unfold f_MO_orders
  repeat' split
  all_goals (try dsimp only)
  all_goals (repeat (first | with_reducible rfl | rw [xu_f (fun e => h (by rw [e]; decide))] | rw [xu_a (fun e => h2 (by rw [e]; decide))] | rw [fr_MO_send (fun q => h ((by decide : ∀ z ∈ ([(0, 2), (0, 3), (0, 39)] : List (Nat × Nat)), z ∈ ([(0, 2), (0, 3), (0, 39)] : List (Nat × Nat))) _ q)) (fun q => h2 ((by decide : ∀ z ∈ ([36, 37, 38, 39, 40, 41, 42, 43] : List Nat), z ∈ ([12, 36, 37, 38, 39, 40, 41, 42, 43, 54] : List Nat)) _ q))]))
theorem p_MO_orders {st : XS} {a1 : Int32} {a2 : Int32} {a3 : Int32} (h : qok st) : qok (f_MO_orders st a1 a2 a3) := by
  unfold f_MO_orders
  repeat' split
  all_goals (try dsimp only)
  all_goals (repeat (first | with_reducible assumption | with_reducible refine p_MO_send ?_ | with_reducible refine qok_xa ?_ (by decide) | with_reducible refine qok_xu ?_ ?_ | decide))
set_option maxRecDepth 100000 in
set_option maxHeartbeats 4000000 in
theorem k_MO_orders (l : Launch) (D : va_G) (cA : Nat → ClassId) (b : Nat) (st : XS) (a1 : Int32) (a2 : Int32) (a3 : Int32) (hq : qok st) (hd1 : vp_in a1 8) (ho2 : vp_in a2 100) (hs : ¬ (st 11 a1.toNatClampNeg 0) = 0) : xMv mw D cA b l y_MO_orders (Cond.code y_MO_orders b_MO_orders 4 none) { frames := 2, cells := 0, slots := 0, locals := 46 } st [.ref (b + 0), .int a1, .int a2, .int a3] (f_MO_orders st a1 a2 a3) := by
  refine xMv_of rfl (by decide) (Nat.le_of_ble_eq_true rfl) ?_
  intro p e s m below meth c ls C hlk hr hml hl hP hS
  have hl : lv_has ls 4 [(0, .ref (b + 0)), (1, .int a1), (2, .int a2), (3, .int a3)] := hl
  refine lv_aload_n C.1 C.2.1 d_MO_orders_0 rfl (lv_at hl 0 rfl) ?_
  refine xget C hP o_MO rfl c_MO (k := 60) (v := .ref (b + 54)) (by decide) wg_937 rfl d_MO_orders_1 ?_
  refine lv_iload_n C.1 C.2.1 d_MO_orders_4 rfl (lv_at hl 2 rfl) ?_
  refine xiald C hP om_54 rfl (v := (st 54 a2.toNatClampNeg 0)) ho2 rfl d_MO_orders_5 ?_
  refine lv_if_ge (tgt := 43) C.1 C.2.1 d_MO_orders_6 (by decide) (fun h1 => ?_) (fun h1 => ?_)
  · refine lv_aload_n C.1 C.2.1 d_MO_orders_43 rfl (lv_at hl 0 rfl) ?_
    refine lv_bipush (v := 6) C.1 C.2.1 d_MO_orders_44 (by decide) ?_
    refine lv_iload_n C.1 C.2.1 d_MO_orders_46 rfl (lv_at hl 1 rfl) ?_
    refine lv_iload_n C.1 C.2.1 d_MO_orders_47 rfl (lv_at hl 2 rfl) ?_
    refine lv_aload_n C.1 C.2.1 d_MO_orders_48 rfl (lv_at hl 0 rfl) ?_
    refine xget C hP o_MO rfl c_MO (k := 60) (v := .ref (b + 54)) (by decide) wg_937 rfl d_MO_orders_49 ?_
    refine lv_iload_n C.1 C.2.1 d_MO_orders_52 rfl (lv_at hl 2 rfl) ?_
    refine xiald C hP om_54 rfl (v := (st 54 a2.toNatClampNeg 0)) ho2 rfl d_MO_orders_53 ?_
    refine lv_iconst (v := 0) C.1 C.2.1 d_MO_orders_54 (by decide) ?_
    refine xcVv (rest := []) C hml hl.1 (k_MO_send l D cA b st 6 a1 a2 (st 54 a2.toNatClampNeg 0) 0 hq hd1) q_MO_send rfl rfl wg_1135 wg_1137 ws_60 ⟨Nat.le_of_ble_eq_true rfl, Nat.le_of_ble_eq_true rfl⟩ hP hS o_MO rfl c_MO rfl (Nat.le_of_ble_eq_true rfl) d_MO_orders_55 rfl (fun H locs hP hS => ?_)
    exact xrv C hlk hr hP hS d_MO_orders_58 (by rw [f_MO_orders, if_pos h1])
  · refine lv_aload_n C.1 C.2.1 d_MO_orders_9 rfl (lv_at hl 0 rfl) ?_
    refine xget C hP o_MO rfl c_MO (k := 60) (v := .ref (b + 54)) (by decide) wg_937 rfl d_MO_orders_10 ?_
    refine lv_iload_n C.1 C.2.1 d_MO_orders_13 rfl (lv_at hl 2 rfl) ?_
    refine lv_aload_n C.1 C.2.1 d_MO_orders_14 rfl (lv_at hl 0 rfl) ?_
    refine lv_iload_n C.1 C.2.1 d_MO_orders_15 rfl (lv_at hl 1 rfl) ?_
    refine lv_iload_n C.1 C.2.1 d_MO_orders_16 rfl (lv_at hl 2 rfl) ?_
    refine lv_iload_n C.1 C.2.1 d_MO_orders_17 rfl (lv_at hl 3 rfl) ?_
    refine xcVi (rest := [.int a2, .ref (b + 54)]) C hml hl.1 (k_MO_judged l D cA b st a1 a2 a3 hd1 ho2 hs) q_MO_judged rfl rfl wg_1195 wg_1197 ws_69 ⟨Nat.le_of_ble_eq_true rfl, Nat.le_of_ble_eq_true rfl⟩ hP hS o_MO rfl c_MO rfl (Nat.le_of_ble_eq_true rfl) d_MO_orders_18 rfl (fun H locs hP hS => ?_)
    refine xiast mw_inj C hP hS om_54 rfl ho2 rfl d_MO_orders_21 (fun H locs hP hS => ?_)
    refine lv_aload_n C.1 C.2.1 d_MO_orders_22 rfl (lv_at hl 0 rfl) ?_
    refine xget C hP o_MO rfl c_MO (k := 60) (v := .ref (b + 54)) (by decide) wg_937 rfl d_MO_orders_23 ?_
    refine lv_iload_n C.1 C.2.1 d_MO_orders_26 rfl (lv_at hl 2 rfl) ?_
    refine xiald C hP om_54 rfl (v := (f_MO_judged st a1 a2 a3)) ho2 (congrArg Value.int xu_s) d_MO_orders_27 ?_
    refine lv_if_ne (tgt := 43) C.1 C.2.1 d_MO_orders_28 (by decide) (fun h2 => ?_) (fun h2 => ?_)
    · refine lv_aload_n C.1 C.2.1 d_MO_orders_43 rfl (lv_at hl 0 rfl) ?_
      refine lv_bipush (v := 6) C.1 C.2.1 d_MO_orders_44 (by decide) ?_
      refine lv_iload_n C.1 C.2.1 d_MO_orders_46 rfl (lv_at hl 1 rfl) ?_
      refine lv_iload_n C.1 C.2.1 d_MO_orders_47 rfl (lv_at hl 2 rfl) ?_
      refine lv_aload_n C.1 C.2.1 d_MO_orders_48 rfl (lv_at hl 0 rfl) ?_
      refine xget C hP o_MO rfl c_MO (k := 60) (v := .ref (b + 54)) (by decide) wg_937 rfl d_MO_orders_49 ?_
      refine lv_iload_n C.1 C.2.1 d_MO_orders_52 rfl (lv_at hl 2 rfl) ?_
      refine xiald C hP om_54 rfl (v := (f_MO_judged st a1 a2 a3)) ho2 (congrArg Value.int xu_s) d_MO_orders_53 ?_
      refine lv_iconst (v := 0) C.1 C.2.1 d_MO_orders_54 (by decide) ?_
      refine xcVv (rest := []) C hml hl.1 (k_MO_send l D cA b (xu st 54 a2.toNatClampNeg 0 (f_MO_judged st a1 a2 a3)) 6 a1 a2 (f_MO_judged st a1 a2 a3) 0 (qok_xa hq (by decide)) hd1) q_MO_send rfl rfl wg_1135 wg_1137 ws_60 ⟨Nat.le_of_ble_eq_true rfl, Nat.le_of_ble_eq_true rfl⟩ hP hS o_MO rfl c_MO rfl (Nat.le_of_ble_eq_true rfl) d_MO_orders_55 rfl (fun H locs hP hS => ?_)
      exact xrv C hlk hr hP hS d_MO_orders_58 (by rw [f_MO_orders, if_neg h1, if_neg h2])
    · refine lv_aload_n C.1 C.2.1 d_MO_orders_31 rfl (lv_at hl 0 rfl) ?_
      refine xget C hP o_MO rfl c_MO (k := 15) (v := .ref (b + 12)) (by decide) wg_892 rfl d_MO_orders_32 ?_
      refine lv_iload_n C.1 C.2.1 d_MO_orders_35 rfl (lv_at hl 1 rfl) ?_
      refine lv_aload_n C.1 C.2.1 d_MO_orders_36 rfl (lv_at hl 0 rfl) ?_
      refine xget C hP o_MO rfl c_MO (k := 58) (v := .ref (b + 52)) (by decide) wg_935 rfl d_MO_orders_37 ?_
      refine lv_iload_n C.1 C.2.1 d_MO_orders_40 rfl (lv_at hl 2 rfl) ?_
      refine xiald C hP om_52 rfl (v := (st 52 a2.toNatClampNeg 0)) ho2 (congrArg Value.int (xu_a (by decide))) d_MO_orders_41 ?_
      refine xiast mw_inj C hP hS om_12 rfl hd1 rfl d_MO_orders_42 (fun H locs hP hS => ?_)
      refine lv_aload_n C.1 C.2.1 d_MO_orders_43 rfl (lv_at hl 0 rfl) ?_
      refine lv_bipush (v := 6) C.1 C.2.1 d_MO_orders_44 (by decide) ?_
      refine lv_iload_n C.1 C.2.1 d_MO_orders_46 rfl (lv_at hl 1 rfl) ?_
      refine lv_iload_n C.1 C.2.1 d_MO_orders_47 rfl (lv_at hl 2 rfl) ?_
      refine lv_aload_n C.1 C.2.1 d_MO_orders_48 rfl (lv_at hl 0 rfl) ?_
      refine xget C hP o_MO rfl c_MO (k := 60) (v := .ref (b + 54)) (by decide) wg_937 rfl d_MO_orders_49 ?_
      refine lv_iload_n C.1 C.2.1 d_MO_orders_52 rfl (lv_at hl 2 rfl) ?_
      refine xiald C hP om_54 rfl (v := (f_MO_judged st a1 a2 a3)) ho2 (congrArg Value.int (Eq.trans (xu_a (by decide)) xu_s)) d_MO_orders_53 ?_
      refine lv_iconst (v := 0) C.1 C.2.1 d_MO_orders_54 (by decide) ?_
      refine xcVv (rest := []) C hml hl.1 (k_MO_send l D cA b (xu (xu st 54 a2.toNatClampNeg 0 (f_MO_judged st a1 a2 a3)) 12 a1.toNatClampNeg 0 (st 52 a2.toNatClampNeg 0)) 6 a1 a2 (f_MO_judged st a1 a2 a3) 0 (qok_xa (qok_xa hq (by decide)) (by decide)) hd1) q_MO_send rfl rfl wg_1135 wg_1137 ws_60 ⟨Nat.le_of_ble_eq_true rfl, Nat.le_of_ble_eq_true rfl⟩ hP hS o_MO rfl c_MO rfl (Nat.le_of_ble_eq_true rfl) d_MO_orders_55 rfl (fun H locs hP hS => ?_)
      exact xrv C hlk hr hP hS d_MO_orders_58 (by rw [f_MO_orders, if_neg h1, if_pos h2])
