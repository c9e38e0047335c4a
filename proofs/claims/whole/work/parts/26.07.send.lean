def f_BN_send (st : XS) (a1 : Int32) (a2 : Int32) (a3 : Int32) (a4 : Int32) : XS :=
  (f_PO_send st a1 a2 a3 (st 8 4 a2.toNatClampNeg) a4 0 0)
set_option maxRecDepth 100000 in
set_option maxHeartbeats 4000000 in
theorem fr_BN_send {st : XS} {a1 : Int32} {a2 : Int32} {a3 : Int32} {a4 : Int32} {a' k' i' : Nat} (h : (a', k') ∉ ([(5, 1), (5, 2), (5, 3), (7, 0), (7, 1), (7, 2), (7, 3), (7, 4), (7, 5), (7, 6), (7, 7)] : List (Nat × Nat))) (h2 : a' ∉ ([] : List Nat)) : (f_BN_send st a1 a2 a3 a4) a' k' i' = st a' k' i' := by
  unfold f_BN_send
  repeat' split
  all_goals (try dsimp only)
  all_goals (repeat (first | with_reducible rfl | rw [xu_f (fun e => h (by rw [e]; decide))] | rw [fr_PO_send (fun q => h ((by decide : ∀ z ∈ ([(5, 1), (5, 2), (5, 3), (7, 0), (7, 1), (7, 2), (7, 3), (7, 4), (7, 5), (7, 6), (7, 7)] : List (Nat × Nat)), z ∈ ([(5, 1), (5, 2), (5, 3), (7, 0), (7, 1), (7, 2), (7, 3), (7, 4), (7, 5), (7, 6), (7, 7)] : List (Nat × Nat))) _ q)) (fun q => h2 ((by decide : ∀ z ∈ ([] : List Nat), z ∈ ([] : List Nat)) _ q))]))
theorem p_BN_send {st : XS} {a1 : Int32} {a2 : Int32} {a3 : Int32} {a4 : Int32} (h : pok st) : pok (f_BN_send st a1 a2 a3 a4) := by
  unfold f_BN_send
  repeat' split
  all_goals (try dsimp only)
  all_goals (repeat (first | with_reducible assumption | with_reducible refine p_PO_send ?_ | with_reducible refine pok_xu ?_ ?_ ?_ | with_reducible refine pok_x5 ?_ ?_ | decide))
set_option maxRecDepth 100000 in
set_option maxHeartbeats 4000000 in
theorem k_BN_send (l : Launch) (D : va_G) (cA : Nat → ClassId) (b : Nat) (st : XS) (a1 : Int32) (a2 : Int32) (a3 : Int32) (a4 : Int32) (hp : pok st) (hd2 : vp_in a2 8) : xMv cw D cA b l y_BN_send (Cond.code y_BN_send b_BN_send 5 none) { frames := 1, cells := 0, slots := 0, locals := 28 } st [.ref (b + 0), .int a1, .int a2, .int a3, .int a4] (f_BN_send st a1 a2 a3 a4) := by
  refine xMv_of rfl (by decide) (Nat.le_of_ble_eq_true rfl) ?_
  intro p e s m below meth c ls C hlk hr hml hl hP hS
  have hl : lv_has ls 5 [(0, .ref (b + 0)), (1, .int a1), (2, .int a2), (3, .int a3), (4, .int a4)] := hl
  refine lv_aload_n C.1 C.2.1 d_BN_send_0 rfl (lv_at hl 0 rfl) ?_
  refine xget C hP o_BN rfl c_BN (k := 4) (v := .ref (b + 5)) (by decide) wg_382 rfl d_BN_send_1 ?_
  refine lv_iload_n C.1 C.2.1 d_BN_send_4 rfl (lv_at hl 1 rfl) ?_
  refine lv_iload_n C.1 C.2.1 d_BN_send_5 rfl (lv_at hl 2 rfl) ?_
  refine lv_iload_n C.1 C.2.1 d_BN_send_6 rfl (lv_at hl 3 rfl) ?_
  refine lv_aload_n C.1 C.2.1 d_BN_send_7 rfl (lv_at hl 0 rfl) ?_
  refine xget C hP o_BN rfl c_BN (k := 0) (v := .ref (b + 1)) (by decide) wg_378 rfl d_BN_send_8 ?_
  refine lv_iload_n C.1 C.2.1 d_BN_send_11 rfl (lv_at hl 2 rfl) ?_
  refine xaald C hP o_da rfl (E := R_DE) rfl (v := b + (73 + 20 * a2.toNatClampNeg)) hd2 rfl d_BN_send_12 ?_
  refine xgetN C hP (o_DE (xin_lt hd2)) rfl c_DE (k := 4) (v := .int (st 8 4 a2.toNatClampNeg)) (by decide) wn_289 rfl d_BN_send_13 ?_
  refine lv_iload C.1 C.2.1 d_BN_send_16 (lv_at hl 4 rfl) ?_
  refine lv_iconst (v := 0) C.1 C.2.1 d_BN_send_18 (by decide) ?_
  refine lv_iconst (v := 0) C.1 C.2.1 d_BN_send_19 (by decide) ?_
  refine xcVNv (rest := []) C hml hl.1 (k_PO_send l D cA b st a1 a2 a3 (st 8 4 a2.toNatClampNeg) a4 0 0 hp) q_PO_send rfl rfl wn_503 wg_505 ws_12 ⟨Nat.le_of_ble_eq_true rfl, Nat.le_of_ble_eq_true rfl⟩ hP hS o_PO rfl c_PO rfl (Nat.le_of_ble_eq_true rfl) d_BN_send_20 rfl (fun H locs hP hS => ?_)
  exact xrv C hlk hr hP hS d_BN_send_23 (by rw [f_BN_send])
