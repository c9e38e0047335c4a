def f_MO_sendSounds (st : XS) (a1 : Int32) : XS :=
  (f_MO_send (xu st 35 a1.toNatClampNeg 0 (st 0 1 0)) 3 a1 0 0 0)
set_option maxRecDepth 100000 in
set_option maxHeartbeats 4000000 in
theorem fr_MO_sendSounds {st : XS} {a1 : Int32} {a' k' i' : Nat} (h : (a', k') ∉ ([(0, 2), (0, 3), (0, 39)] : List (Nat × Nat))) (h2 : a' ∉ ([35, 36, 37, 38, 39, 40, 41, 42, 43] : List Nat)) : (f_MO_sendSounds st a1) a' k' i' = st a' k' i' := by
  unfold f_MO_sendSounds
  repeat' split
  all_goals (try dsimp only)
  all_goals (repeat (first | with_reducible rfl | rw [xu_f (fun e => h (by rw [e]; decide))] | rw [xu_a (fun e => h2 (by rw [e]; decide))] | rw [fr_MO_send (fun q => h ((by decide : ∀ z ∈ ([(0, 2), (0, 3), (0, 39)] : List (Nat × Nat)), z ∈ ([(0, 2), (0, 3), (0, 39)] : List (Nat × Nat))) _ q)) (fun q => h2 ((by decide : ∀ z ∈ ([36, 37, 38, 39, 40, 41, 42, 43] : List Nat), z ∈ ([35, 36, 37, 38, 39, 40, 41, 42, 43] : List Nat)) _ q))]))
theorem p_MO_sendSounds {st : XS} {a1 : Int32} (h : qok st) : qok (f_MO_sendSounds st a1) := by
  unfold f_MO_sendSounds
  repeat' split
  all_goals (try dsimp only)
  all_goals (repeat (first | with_reducible assumption | with_reducible refine p_MO_send ?_ | with_reducible refine qok_xa ?_ (by decide) | with_reducible refine qok_xu ?_ ?_ | decide))
set_option maxRecDepth 100000 in
set_option maxHeartbeats 4000000 in
theorem k_MO_sendSounds (l : Launch) (D : va_G) (cA : Nat → ClassId) (b : Nat) (st : XS) (a1 : Int32) (hq : qok st) (hd1 : vp_in a1 8) : xMv mw D cA b l y_MO_sendSounds (Cond.code y_MO_sendSounds b_MO_sendSounds 2 none) { frames := 1, cells := 0, slots := 0, locals := 25 } st [.ref (b + 0), .int a1] (f_MO_sendSounds st a1) := by
  refine xMv_of rfl (by decide) (Nat.le_of_ble_eq_true rfl) ?_
  intro p e s m below meth c ls C hlk hr hml hl hP hS
  have hl : lv_has ls 2 [(0, .ref (b + 0)), (1, .int a1)] := hl
  refine lv_aload_n C.1 C.2.1 d_MO_sendSounds_0 rfl (lv_at hl 0 rfl) ?_
  refine xget C hP o_MO rfl c_MO (k := 38) (v := .ref (b + 35)) (by decide) wg_915 rfl d_MO_sendSounds_1 ?_
  refine lv_iload_n C.1 C.2.1 d_MO_sendSounds_4 rfl (lv_at hl 1 rfl) ?_
  refine lv_aload_n C.1 C.2.1 d_MO_sendSounds_5 rfl (lv_at hl 0 rfl) ?_
  refine xget C hP o_MO rfl c_MO (k := 1) (v := .int (st 0 1 0)) (by decide) wg_878 rfl d_MO_sendSounds_6 ?_
  refine xiast mw_inj C hP hS om_35 rfl hd1 rfl d_MO_sendSounds_9 (fun H locs hP hS => ?_)
  refine lv_aload_n C.1 C.2.1 d_MO_sendSounds_10 rfl (lv_at hl 0 rfl) ?_
  refine lv_iconst (v := 3) C.1 C.2.1 d_MO_sendSounds_11 (by decide) ?_
  refine lv_iload_n C.1 C.2.1 d_MO_sendSounds_12 rfl (lv_at hl 1 rfl) ?_
  refine lv_iconst (v := 0) C.1 C.2.1 d_MO_sendSounds_13 (by decide) ?_
  refine lv_iconst (v := 0) C.1 C.2.1 d_MO_sendSounds_14 (by decide) ?_
  refine lv_iconst (v := 0) C.1 C.2.1 d_MO_sendSounds_15 (by decide) ?_
  refine xcVv (rest := []) C hml hl.1 (k_MO_send l D cA b (xu st 35 a1.toNatClampNeg 0 (st 0 1 0)) 3 a1 0 0 0 (qok_xa hq (by decide)) hd1) q_MO_send rfl rfl wg_1135 wg_1137 ws_60 ⟨Nat.le_of_ble_eq_true rfl, Nat.le_of_ble_eq_true rfl⟩ hP hS o_MO rfl c_MO rfl (Nat.le_of_ble_eq_true rfl) d_MO_sendSounds_16 rfl (fun H locs hP hS => ?_)
  exact xrv C hlk hr hP hS d_MO_sendSounds_19 (by rw [f_MO_sendSounds])
