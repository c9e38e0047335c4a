def f_MO_sendValue (st : XS) (a1 : Int32) (a2 : Int32) : XS :=
  (f_MO_send (xu st 27 (((4 * a1) + a2)).toNatClampNeg 0 (st 0 1 0)) 1 a1 a2 (st 25 (((4 * a1) + a2)).toNatClampNeg 0) (st 26 (((4 * a1) + a2)).toNatClampNeg 0))
set_option maxRecDepth 100000 in
set_option maxHeartbeats 4000000 in
theorem fr_MO_sendValue {st : XS} {a1 : Int32} {a2 : Int32} {a' k' i' : Nat} (h : (a', k') ∉ ([(0, 2), (0, 3), (0, 39)] : List (Nat × Nat))) (h2 : a' ∉ ([27, 36, 37, 38, 39, 40, 41, 42, 43] : List Nat)) : (f_MO_sendValue st a1 a2) a' k' i' = st a' k' i' := by
  unfold f_MO_sendValue
  repeat' split
  all_goals (try dsimp only)
  all_goals (repeat (first | with_reducible rfl | rw [xu_f (fun e => h (by rw [e]; decide))] | rw [xu_a (fun e => h2 (by rw [e]; decide))] | rw [fr_MO_send (fun q => h ((by decide : ∀ z ∈ ([(0, 2), (0, 3), (0, 39)] : List (Nat × Nat)), z ∈ ([(0, 2), (0, 3), (0, 39)] : List (Nat × Nat))) _ q)) (fun q => h2 ((by decide : ∀ z ∈ ([36, 37, 38, 39, 40, 41, 42, 43] : List Nat), z ∈ ([27, 36, 37, 38, 39, 40, 41, 42, 43] : List Nat)) _ q))]))
theorem p_MO_sendValue {st : XS} {a1 : Int32} {a2 : Int32} (h : qok st) : qok (f_MO_sendValue st a1 a2) := by
  unfold f_MO_sendValue
  repeat' split
  all_goals (try dsimp only)
  all_goals (repeat (first | with_reducible assumption | with_reducible refine p_MO_send ?_ | with_reducible refine qok_xa ?_ (by decide) | with_reducible refine qok_xu ?_ ?_ | decide))
set_option maxRecDepth 100000 in
set_option maxHeartbeats 4000000 in
theorem k_MO_sendValue (l : Launch) (D : va_G) (cA : Nat → ClassId) (b : Nat) (st : XS) (a1 : Int32) (a2 : Int32) (hq : qok st) (hd1 : vp_in a1 8) (hc2 : vp_in a2 4) : xMv mw D cA b l y_MO_sendValue (Cond.code y_MO_sendValue b_MO_sendValue 4 none) { frames := 1, cells := 0, slots := 0, locals := 25 } st [.ref (b + 0), .int a1, .int a2] (f_MO_sendValue st a1 a2) := by
  refine xMv_of rfl (by decide) (Nat.le_of_ble_eq_true rfl) ?_
  intro p e s m below meth c ls C hlk hr hml hl hP hS
  have hl : lv_has ls 4 [(0, .ref (b + 0)), (1, .int a1), (2, .int a2)] := hl
  refine lv_iconst (v := 4) C.1 C.2.1 d_MO_sendValue_0 (by decide) ?_
  refine lv_iload_n C.1 C.2.1 d_MO_sendValue_1 rfl (lv_at hl 1 rfl) ?_
  refine lv_imul C.1 C.2.1 d_MO_sendValue_2 ?_
  refine lv_iload_n C.1 C.2.1 d_MO_sendValue_3 rfl (lv_at hl 2 rfl) ?_
  refine lv_iadd C.1 C.2.1 d_MO_sendValue_4 ?_
  refine lv_istore_n C.1 C.2.1 d_MO_sendValue_5 rfl hl (by decide) rfl (fun ls hl => ?_)
  have hl : lv_has ls 4 [(3, .int ((4 * a1) + a2)), (0, .ref (b + 0)), (1, .int a1), (2, .int a2)] := hl
  refine lv_aload_n C.1 C.2.1 d_MO_sendValue_6 rfl (lv_at hl 1 rfl) ?_
  refine xget C hP o_MO rfl c_MO (k := 30) (v := .ref (b + 27)) (by decide) wg_907 rfl d_MO_sendValue_7 ?_
  refine lv_iload_n C.1 C.2.1 d_MO_sendValue_10 rfl (lv_at hl 0 rfl) ?_
  refine lv_aload_n C.1 C.2.1 d_MO_sendValue_11 rfl (lv_at hl 1 rfl) ?_
  refine xget C hP o_MO rfl c_MO (k := 1) (v := .int (st 0 1 0)) (by decide) wg_878 rfl d_MO_sendValue_12 ?_
  refine xiast mw_inj C hP hS om_27 rfl (ix4 hd1 hc2) rfl d_MO_sendValue_15 (fun H locs hP hS => ?_)
  refine lv_aload_n C.1 C.2.1 d_MO_sendValue_16 rfl (lv_at hl 1 rfl) ?_
  refine lv_iconst (v := 1) C.1 C.2.1 d_MO_sendValue_17 (by decide) ?_
  refine lv_iload_n C.1 C.2.1 d_MO_sendValue_18 rfl (lv_at hl 2 rfl) ?_
  refine lv_iload_n C.1 C.2.1 d_MO_sendValue_19 rfl (lv_at hl 3 rfl) ?_
  refine lv_aload_n C.1 C.2.1 d_MO_sendValue_20 rfl (lv_at hl 1 rfl) ?_
  refine xget C hP o_MO rfl c_MO (k := 28) (v := .ref (b + 25)) (by decide) wg_905 rfl d_MO_sendValue_21 ?_
  refine lv_iload_n C.1 C.2.1 d_MO_sendValue_24 rfl (lv_at hl 0 rfl) ?_
  refine xiald C hP om_25 rfl (v := (st 25 (((4 * a1) + a2)).toNatClampNeg 0)) (ix4 hd1 hc2) (congrArg Value.int (xu_a (by decide))) d_MO_sendValue_25 ?_
  refine lv_aload_n C.1 C.2.1 d_MO_sendValue_26 rfl (lv_at hl 1 rfl) ?_
  refine xget C hP o_MO rfl c_MO (k := 29) (v := .ref (b + 26)) (by decide) wg_906 rfl d_MO_sendValue_27 ?_
  refine lv_iload_n C.1 C.2.1 d_MO_sendValue_30 rfl (lv_at hl 0 rfl) ?_
  refine xiald C hP om_26 rfl (v := (st 26 (((4 * a1) + a2)).toNatClampNeg 0)) (ix4 hd1 hc2) (congrArg Value.int (xu_a (by decide))) d_MO_sendValue_31 ?_
  refine xcVv (rest := []) C hml hl.1 (k_MO_send l D cA b (xu st 27 (((4 * a1) + a2)).toNatClampNeg 0 (st 0 1 0)) 1 a1 a2 (st 25 (((4 * a1) + a2)).toNatClampNeg 0) (st 26 (((4 * a1) + a2)).toNatClampNeg 0) (qok_xa hq (by decide)) hd1) q_MO_send rfl rfl wg_1135 wg_1137 ws_60 ⟨Nat.le_of_ble_eq_true rfl, Nat.le_of_ble_eq_true rfl⟩ hP hS o_MO rfl c_MO rfl (Nat.le_of_ble_eq_true rfl) d_MO_sendValue_32 rfl (fun H locs hP hS => ?_)
  exact xrv C hlk hr hP hS d_MO_sendValue_35 (by rw [f_MO_sendValue])
