def f_BN_sendValue (st : XS) (a1 : Int32) (a2 : Int32) : XS :=
  (xu (f_PO_send st 1 a1 a2 (st 8 4 a1.toNatClampNeg) (st 12 5 (20 * a1.toNatClampNeg + 4 * a2.toNatClampNeg)) (st 12 6 (20 * a1.toNatClampNeg + 4 * a2.toNatClampNeg)) (st 8 6 a1.toNatClampNeg)) 12 8 (20 * a1.toNatClampNeg + 4 * a2.toNatClampNeg) (st 0 8 0))
set_option maxRecDepth 100000 in
set_option maxHeartbeats 4000000 in
theorem fr_BN_sendValue {st : XS} {a1 : Int32} {a2 : Int32} {a' k' i' : Nat} (h : (a', k') ∉ ([(5, 1), (5, 2), (5, 3), (7, 0), (7, 1), (7, 2), (7, 3), (7, 4), (7, 5), (7, 6), (7, 7), (12, 8)] : List (Nat × Nat))) (h2 : a' ∉ ([] : List Nat)) : (f_BN_sendValue st a1 a2) a' k' i' = st a' k' i' := by
  unfold f_BN_sendValue
  repeat' split
  all_goals (try dsimp only)
  all_goals (repeat (first | with_reducible rfl | rw [xu_f (fun e => h (by rw [e]; decide))] | rw [fr_PO_send (fun q => h ((by decide : ∀ z ∈ ([(5, 1), (5, 2), (5, 3), (7, 0), (7, 1), (7, 2), (7, 3), (7, 4), (7, 5), (7, 6), (7, 7)] : List (Nat × Nat)), z ∈ ([(5, 1), (5, 2), (5, 3), (7, 0), (7, 1), (7, 2), (7, 3), (7, 4), (7, 5), (7, 6), (7, 7), (12, 8)] : List (Nat × Nat))) _ q)) (fun q => h2 ((by decide : ∀ z ∈ ([] : List Nat), z ∈ ([] : List Nat)) _ q))]))
theorem p_BN_sendValue {st : XS} {a1 : Int32} {a2 : Int32} (h : pok st) : pok (f_BN_sendValue st a1 a2) := by
  unfold f_BN_sendValue
  repeat' split
  all_goals (try dsimp only)
  all_goals (repeat (first | with_reducible assumption | with_reducible refine p_PO_send ?_ | with_reducible refine pok_xu ?_ ?_ ?_ | with_reducible refine pok_x5 ?_ ?_ | decide))
set_option maxRecDepth 100000 in
set_option maxHeartbeats 4000000 in
theorem k_BN_sendValue (l : Launch) (D : va_G) (cA : Nat → ClassId) (b : Nat) (st : XS) (a1 : Int32) (a2 : Int32) (hp : pok st) (hd1 : vp_in a1 8) (hc2 : vp_in a2 4) : xMv cw D cA b l y_BN_sendValue (Cond.code y_BN_sendValue b_BN_sendValue 5 none) { frames := 1, cells := 0, slots := 0, locals := 28 } st [.ref (b + 0), .int a1, .int a2] (f_BN_sendValue st a1 a2) := by
  refine xMv_of rfl (by decide) (Nat.le_of_ble_eq_true rfl) ?_
  intro p e s m below meth c ls C hlk hr hml hl hP hS
  have hl : lv_has ls 5 [(0, .ref (b + 0)), (1, .int a1), (2, .int a2)] := hl
  refine lv_aload_n C.1 C.2.1 d_BN_sendValue_0 rfl (lv_at hl 0 rfl) ?_
  refine xget C hP o_BN rfl c_BN (k := 0) (v := .ref (b + 1)) (by decide) wg_378 rfl d_BN_sendValue_1 ?_
  refine lv_iload_n C.1 C.2.1 d_BN_sendValue_4 rfl (lv_at hl 1 rfl) ?_
  refine xaald C hP o_da rfl (E := R_DE) rfl (v := b + (73 + 20 * a1.toNatClampNeg)) hd1 rfl d_BN_sendValue_5 ?_
  refine lv_astore_n C.1 C.2.1 d_BN_sendValue_6 rfl hl (by decide) rfl (fun ls hl => ?_)
  have hl : lv_has ls 5 [(3, .ref (b + (73 + 20 * a1.toNatClampNeg))), (0, .ref (b + 0)), (1, .int a1), (2, .int a2)] := hl
  refine lv_aload_n C.1 C.2.1 d_BN_sendValue_7 rfl (lv_at hl 0 rfl) ?_
  refine xgetN C hP (o_DE (xin_lt hd1)) rfl c_DE (k := 0) (v := .ref (b + (74 + 20 * a1.toNatClampNeg))) (by decide) wn_281 rfl d_BN_sendValue_8 ?_
  refine lv_iload_n C.1 C.2.1 d_BN_sendValue_11 rfl (lv_at hl 3 rfl) ?_
  refine xaald C hP (o_ca (xin_lt hd1)) rfl (E := R_CH) rfl (v := b + (77 + (20 * a1.toNatClampNeg + 4 * a2.toNatClampNeg))) hc2 rfl d_BN_sendValue_12 ?_
  refine lv_astore C.1 C.2.1 d_BN_sendValue_13 hl (by decide) rfl (fun ls hl => ?_)
  have hl : lv_has ls 5 [(4, .ref (b + (77 + (20 * a1.toNatClampNeg + 4 * a2.toNatClampNeg)))), (3, .ref (b + (73 + 20 * a1.toNatClampNeg))), (0, .ref (b + 0)), (1, .int a1), (2, .int a2)] := hl
  refine lv_aload_n C.1 C.2.1 d_BN_sendValue_15 rfl (lv_at hl 2 rfl) ?_
  refine xget C hP o_BN rfl c_BN (k := 4) (v := .ref (b + 5)) (by decide) wg_382 rfl d_BN_sendValue_16 ?_
  refine lv_iconst (v := 1) C.1 C.2.1 d_BN_sendValue_19 (by decide) ?_
  refine lv_iload_n C.1 C.2.1 d_BN_sendValue_20 rfl (lv_at hl 3 rfl) ?_
  refine lv_iload_n C.1 C.2.1 d_BN_sendValue_21 rfl (lv_at hl 4 rfl) ?_
  refine lv_aload_n C.1 C.2.1 d_BN_sendValue_22 rfl (lv_at hl 1 rfl) ?_
  refine xgetN C hP (o_DE (xin_lt hd1)) rfl c_DE (k := 4) (v := .int (st 8 4 a1.toNatClampNeg)) (by decide) wn_289 rfl d_BN_sendValue_23 ?_
  refine lv_aload C.1 C.2.1 d_BN_sendValue_26 (lv_at hl 0 rfl) ?_
  refine xgetN C hP (o_CH (cix_of (xin_lt hd1) (xin_lt hc2))) rfl c_CH (k := 5) (v := .int (st 12 5 (20 * a1.toNatClampNeg + 4 * a2.toNatClampNeg))) (by decide) wn_253 rfl d_BN_sendValue_28 ?_
  refine lv_aload C.1 C.2.1 d_BN_sendValue_31 (lv_at hl 0 rfl) ?_
  refine xgetN C hP (o_CH (cix_of (xin_lt hd1) (xin_lt hc2))) rfl c_CH (k := 6) (v := .int (st 12 6 (20 * a1.toNatClampNeg + 4 * a2.toNatClampNeg))) (by decide) wn_255 rfl d_BN_sendValue_33 ?_
  refine lv_aload_n C.1 C.2.1 d_BN_sendValue_36 rfl (lv_at hl 1 rfl) ?_
  refine xgetN C hP (o_DE (xin_lt hd1)) rfl c_DE (k := 6) (v := .int (st 8 6 a1.toNatClampNeg)) (by decide) wn_293 rfl d_BN_sendValue_37 ?_
  refine xcVNv (rest := []) C hml hl.1 (k_PO_send l D cA b st 1 a1 a2 (st 8 4 a1.toNatClampNeg) (st 12 5 (20 * a1.toNatClampNeg + 4 * a2.toNatClampNeg)) (st 12 6 (20 * a1.toNatClampNeg + 4 * a2.toNatClampNeg)) (st 8 6 a1.toNatClampNeg) hp) q_PO_send rfl rfl wn_503 wg_505 ws_12 ⟨Nat.le_of_ble_eq_true rfl, Nat.le_of_ble_eq_true rfl⟩ hP hS o_PO rfl c_PO rfl (Nat.le_of_ble_eq_true rfl) d_BN_sendValue_40 rfl (fun H locs hP hS => ?_)
  refine lv_aload C.1 C.2.1 d_BN_sendValue_43 (lv_at hl 0 rfl) ?_
  refine lv_aload_n C.1 C.2.1 d_BN_sendValue_45 rfl (lv_at hl 2 rfl) ?_
  refine xget C hP o_BN rfl c_BN (k := 8) (v := .int (st 0 8 0)) (by decide) wg_386 (congrArg Value.int (fr_PO_send (by decide) (by decide))) d_BN_sendValue_46 ?_
  refine xputN cw_inj C hP hS (o_CH (cix_of (xin_lt hd1) (xin_lt hc2))) rfl c_CH (k := 8) (x := (st 0 8 0)) (by decide) wn_260 rfl rfl rfl rfl d_BN_sendValue_49 (fun H locs hP hS => ?_)
  exact xrv C hlk hr hP hS d_BN_sendValue_52 (by rw [f_BN_sendValue])
