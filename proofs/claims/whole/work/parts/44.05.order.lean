def f_BN_order (st : XS) (a1 : Int32) (a2 : Int32) (a3 : Int32) (a4 : Int32) : Nat × Int32 × XS :=
  if (f_BN_isController a1) = 0 then (1, 0, st)
  else if (f_BN_isSettable st a2) = 0 then (1, 0, st)
  else if (st 0 7 0) < 100 then (0, (st 0 7 0), (f_BN_send (xu (f_OR_write st ((st 0 7 0)).toNatClampNeg a1 a3 a4) 0 7 0 ((st 0 7 0) + 1)) 5 a2 (st 0 7 0) 0))
  else (2, 0, st)
set_option maxRecDepth 100000 in
set_option maxHeartbeats 4000000 in
theorem fr_BN_order {st : XS} {a1 : Int32} {a2 : Int32} {a3 : Int32} {a4 : Int32} {a' k' i' : Nat} (h : (a', k') ∉ ([(0, 7), (5, 1), (5, 2), (5, 3), (7, 0), (7, 1), (7, 2), (7, 3), (7, 4), (7, 5), (7, 6), (7, 7), (16, 0), (16, 1), (16, 2)] : List (Nat × Nat))) (h2 : a' ∉ ([] : List Nat)) : (f_BN_order st a1 a2 a3 a4).2.2 a' k' i' = st a' k' i' := by
  unfold f_BN_order
  repeat' split
  all_goals (try dsimp only)
  all_goals (repeat (first | with_reducible rfl | rw [xu_f (fun e => h (by rw [e]; decide))] | rw [fr_BN_send (fun q => h ((by decide : ∀ z ∈ ([(5, 1), (5, 2), (5, 3), (7, 0), (7, 1), (7, 2), (7, 3), (7, 4), (7, 5), (7, 6), (7, 7)] : List (Nat × Nat)), z ∈ ([(0, 7), (5, 1), (5, 2), (5, 3), (7, 0), (7, 1), (7, 2), (7, 3), (7, 4), (7, 5), (7, 6), (7, 7), (16, 0), (16, 1), (16, 2)] : List (Nat × Nat))) _ q)) (fun q => h2 ((by decide : ∀ z ∈ ([] : List Nat), z ∈ ([] : List Nat)) _ q))] | rw [fr_OR_write (fun q => h ((by decide : ∀ z ∈ ([(16, 0), (16, 1), (16, 2)] : List (Nat × Nat)), z ∈ ([(0, 7), (5, 1), (5, 2), (5, 3), (7, 0), (7, 1), (7, 2), (7, 3), (7, 4), (7, 5), (7, 6), (7, 7), (16, 0), (16, 1), (16, 2)] : List (Nat × Nat))) _ q)) (fun q => h2 ((by decide : ∀ z ∈ ([] : List Nat), z ∈ ([] : List Nat)) _ q))]))
theorem p_BN_order {st : XS} {a1 : Int32} {a2 : Int32} {a3 : Int32} {a4 : Int32} (h : pok st) : pok (f_BN_order st a1 a2 a3 a4).2.2 := by
  unfold f_BN_order
  repeat' split
  all_goals (try dsimp only)
  all_goals (repeat (first | with_reducible assumption | with_reducible refine p_BN_send ?_ | with_reducible refine p_OR_write ?_ | with_reducible refine pok_xu ?_ ?_ ?_ | with_reducible refine pok_x5 ?_ ?_ | decide))
set_option maxRecDepth 100000 in
set_option maxHeartbeats 4000000 in
theorem k_BN_order (l : Launch) (hlt : l.stackTraces = false) (D : va_G) (cA : Nat → ClassId) (b : Nat) (st : XS) (a1 : Int32) (a2 : Int32) (a3 : Int32) (a4 : Int32) (hp : pok st) (hn0 : 0 ≤ (st 0 7 0).toInt) : xMt cw D cA b l y_BN_order (Cond.code y_BN_order b_BN_order 6 (some .int)) { frames := 6, cells := 1, slots := 6, locals := 89 } st [.ref (b + 0), .int a1, .int a2, .int a3, .int a4] (f_BN_order st a1 a2 a3 a4).1 (f_BN_order st a1 a2 a3 a4).2.1 (f_BN_order st a1 a2 a3 a4).2.2 := by
  refine xMt_of rfl (by decide) (Nat.le_of_ble_eq_true rfl) ?_
  intro p e s m below meth c ls C hlk hr hml hl hP hS hT hno
  have hl : lv_has ls 6 [(0, .ref (b + 0)), (1, .int a1), (2, .int a2), (3, .int a3), (4, .int a4)] := hl
  refine lv_iload_n C.1 C.2.1 d_BN_order_0 rfl (lv_at hl 1 rfl) ?_
  refine xcSi (rest := []) C hml hl.1 (k_BN_isController l D cA b st a1) q_BN_isController rfl rfl wg_598 wg_599 ⟨Nat.le_of_ble_eq_true rfl, Nat.le_of_ble_eq_true rfl⟩ hP hS rfl (Nat.le_of_ble_eq_true rfl) d_BN_order_1 rfl (fun H locs hP hS => ?_)
  refine lv_if_eq (tgt := 15) C.1 C.2.1 d_BN_order_4 (by decide) (fun h1 => ?_) (fun h1 => ?_)
  · rw [show (f_BN_order st a1 a2 a3 a4) = (1, 0, st) from by rw [f_BN_order, if_pos h1]]
    exact xthrow C hlt (names := nmR) (ex := 1) (by decide) (by decide) th_1 wg_650 wg_16 wg_651 hT hP hS (hl.1.trans hml.symm) d_BN_order_15 d_BN_order_18 d_BN_order_19 d_BN_order_22 hno (by decide) (Nat.le_of_ble_eq_true rfl) (by decide) (by decide) hlk rfl (by decide)
  · refine lv_aload_n C.1 C.2.1 d_BN_order_7 rfl (lv_at hl 0 rfl) ?_
    refine lv_iload_n C.1 C.2.1 d_BN_order_8 rfl (lv_at hl 2 rfl) ?_
    refine xcVi (rest := []) C hml hl.1 (k_BN_isSettable l D cA b st a2) q_BN_isSettable rfl rfl wg_601 wg_603 ws_30 ⟨Nat.le_of_ble_eq_true rfl, Nat.le_of_ble_eq_true rfl⟩ hP hS o_BN rfl c_BN rfl (Nat.le_of_ble_eq_true rfl) d_BN_order_9 rfl (fun H locs hP hS => ?_)
    refine lv_if_ne (tgt := 23) C.1 C.2.1 d_BN_order_12 (by decide) (fun h2 => ?_) (fun h2 => ?_)
    · refine lv_aload_n C.1 C.2.1 d_BN_order_23 rfl (lv_at hl 0 rfl) ?_
      refine xget C hP o_BN rfl c_BN (k := 7) (v := .int (st 0 7 0)) (by decide) wg_385 rfl d_BN_order_24 ?_
      refine lv_bipush (v := 100) C.1 C.2.1 d_BN_order_27 (by decide) ?_
      refine lv_icmp_lt (tgt := 40) C.1 C.2.1 d_BN_order_29 (by decide) (fun h3 => ?_) (fun h3 => ?_)
      · refine lv_aload_n C.1 C.2.1 d_BN_order_40 rfl (lv_at hl 0 rfl) ?_
        refine xget C hP o_BN rfl c_BN (k := 7) (v := .int (st 0 7 0)) (by decide) wg_385 rfl d_BN_order_41 ?_
        refine lv_istore C.1 C.2.1 d_BN_order_44 hl (by decide) rfl (fun ls hl => ?_)
        have hl : lv_has ls 6 [(5, .int (st 0 7 0)), (0, .ref (b + 0)), (1, .int a1), (2, .int a2), (3, .int a3), (4, .int a4)] := hl
        refine lv_aload_n C.1 C.2.1 d_BN_order_46 rfl (lv_at hl 1 rfl) ?_
        refine xget C hP o_BN rfl c_BN (k := 3) (v := .ref (b + 4)) (by decide) wg_381 rfl d_BN_order_47 ?_
        refine lv_iload C.1 C.2.1 d_BN_order_50 (lv_at hl 0 rfl) ?_
        refine xaald C hP o_oa rfl (E := R_OR) rfl (v := b + (249 + ((st 0 7 0)).toNatClampNeg)) (lt_in hn0 h3 (by decide)) rfl d_BN_order_52 ?_
        refine lv_iload_n C.1 C.2.1 d_BN_order_53 rfl (lv_at hl 2 rfl) ?_
        refine lv_iload_n C.1 C.2.1 d_BN_order_54 rfl (lv_at hl 4 rfl) ?_
        refine lv_iload C.1 C.2.1 d_BN_order_55 (lv_at hl 5 rfl) ?_
        refine xcVNv (rest := []) C hml hl.1 (k_OR_write l D cA b st (249 + ((st 0 7 0)).toNatClampNeg) ((st 0 7 0)).toNatClampNeg (o_OR (xin_lt (lt_in hn0 h3 (by decide)))) a1 a3 a4) q_OR_write rfl rfl wn_815 wg_817 ws_43 ⟨Nat.le_of_ble_eq_true rfl, Nat.le_of_ble_eq_true rfl⟩ hP hS (o_OR (xin_lt (lt_in hn0 h3 (by decide)))) rfl c_OR rfl (Nat.le_of_ble_eq_true rfl) d_BN_order_57 rfl (fun H locs hP hS => ?_)
        refine lv_aload_n C.1 C.2.1 d_BN_order_60 rfl (lv_at hl 1 rfl) ?_
        refine lv_iload C.1 C.2.1 d_BN_order_61 (lv_at hl 0 rfl) ?_
        refine lv_iconst (v := 1) C.1 C.2.1 d_BN_order_63 (by decide) ?_
        refine lv_iadd C.1 C.2.1 d_BN_order_64 ?_
        refine xput cw_inj C hP hS o_BN rfl c_BN (k := 7) (x := ((st 0 7 0) + 1)) (by decide) wg_385 rfl rfl rfl rfl d_BN_order_65 (fun H locs hP hS => ?_)
        refine lv_aload_n C.1 C.2.1 d_BN_order_68 rfl (lv_at hl 1 rfl) ?_
        refine lv_iconst (v := 5) C.1 C.2.1 d_BN_order_69 (by decide) ?_
        refine lv_iload_n C.1 C.2.1 d_BN_order_70 rfl (lv_at hl 3 rfl) ?_
        refine lv_iload C.1 C.2.1 d_BN_order_71 (lv_at hl 0 rfl) ?_
        refine lv_iconst (v := 0) C.1 C.2.1 d_BN_order_73 (by decide) ?_
        refine xcVv (rest := []) C hml hl.1 (k_BN_send l D cA b (xu (f_OR_write st ((st 0 7 0)).toNatClampNeg a1 a3 a4) 0 7 0 ((st 0 7 0) + 1)) 5 a2 (st 0 7 0) 0 (pok_xu (pok_of hp (fr_OR_write (by decide) (by decide)) (fun _ => fr_OR_write (by simp) (by decide))) (by decide) (by decide)) (vd_isSettable h2)) q_BN_send rfl rfl wg_518 wg_520 ws_15 ⟨Nat.le_of_ble_eq_true rfl, Nat.le_of_ble_eq_true rfl⟩ hP hS o_BN rfl c_BN rfl (Nat.le_of_ble_eq_true rfl) d_BN_order_74 rfl (fun H locs hP hS => ?_)
        refine lv_iload C.1 C.2.1 d_BN_order_77 (lv_at hl 0 rfl) ?_
        rw [show (f_BN_order st a1 a2 a3 a4) = (0, (st 0 7 0), (f_BN_send (xu (f_OR_write st ((st 0 7 0)).toNatClampNeg a1 a3 a4) 0 7 0 ((st 0 7 0) + 1)) 5 a2 (st 0 7 0) 0)) from by rw [f_BN_order, if_neg h1, if_neg h2, if_pos h3]]
        exact xrtp C hlk hr hP hS d_BN_order_79
      · rw [show (f_BN_order st a1 a2 a3 a4) = (2, 0, st) from by rw [f_BN_order, if_neg h1, if_neg h2, if_neg h3]]
        exact xthrow C hlt (names := nmR) (ex := 2) (by decide) (by decide) th_2 wg_714 wg_17 wg_715 hT hP hS (hl.1.trans hml.symm) d_BN_order_32 d_BN_order_35 d_BN_order_36 d_BN_order_39 hno (by decide) (Nat.le_of_ble_eq_true rfl) (by decide) (by decide) hlk rfl (by decide)
    · rw [show (f_BN_order st a1 a2 a3 a4) = (1, 0, st) from by rw [f_BN_order, if_neg h1, if_pos h2]]
      exact xthrow C hlt (names := nmR) (ex := 1) (by decide) (by decide) th_1 wg_650 wg_16 wg_651 hT hP hS (hl.1.trans hml.symm) d_BN_order_15 d_BN_order_18 d_BN_order_19 d_BN_order_22 hno (by decide) (Nat.le_of_ble_eq_true rfl) (by decide) (by decide) hlk rfl (by decide)
