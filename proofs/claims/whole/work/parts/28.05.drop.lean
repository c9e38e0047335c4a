def f_BN_drop (st : XS) (a1 : Int32) : XS × Int32 :=
  if (f_PO_indexOf st a1) = (-1) then (st, 0)
  else ((f_PO_remove st (f_PO_indexOf st a1)), 1)
set_option maxRecDepth 100000 in
set_option maxHeartbeats 4000000 in
theorem z_BN_drop {st : XS} {a1 : Int32} : bz (f_BN_drop st a1).2 = (f_BN_drop st a1).2 := by
  unfold f_BN_drop
  repeat' split
  all_goals first | with_reducible exact bz_0 | with_reducible exact bz_1 | with_reducible exact bz_bz _
set_option maxRecDepth 100000 in
set_option maxHeartbeats 4000000 in
theorem fr_BN_drop {st : XS} {a1 : Int32} {a' k' i' : Nat} (h : (a', k') ∉ ([(5, 1)] : List (Nat × Nat))) (h2 : a' ∉ ([6] : List Nat)) : (f_BN_drop st a1).1 a' k' i' = st a' k' i' := by
  unfold f_BN_drop
  repeat' split
  all_goals (try dsimp only)
  all_goals (repeat (first | with_reducible rfl | rw [xu_f (fun e => h (by rw [e]; decide))] | rw [xu_a (fun e => h2 (by rw [e]; decide))] | rw [fr_PO_remove (fun q => h ((by decide : ∀ z ∈ ([(5, 1)] : List (Nat × Nat)), z ∈ ([(5, 1)] : List (Nat × Nat))) _ q)) (fun q => h2 ((by decide : ∀ z ∈ ([6] : List Nat), z ∈ ([6] : List Nat)) _ q))]))
set_option maxRecDepth 100000 in
set_option maxHeartbeats 4000000 in
theorem k_BN_drop (l : Launch) (D : va_G) (cA : Nat → ClassId) (b : Nat) (st : XS) (a1 : Int32) (hp : pok st) : xMi cw D cA b l y_BN_drop (Cond.code y_BN_drop b_BN_drop 3 (some .boolean)) { frames := 1, cells := 0, slots := 0, locals := 23 } st [.ref (b + 0), .int a1] (f_BN_drop st a1).2 (f_BN_drop st a1).1 := by
  refine xMi_of rfl (by decide) (Nat.le_of_ble_eq_true rfl) ?_
  intro p e s m below meth c ls C hlk hr hml hl hP hS
  have hl : lv_has ls 3 [(0, .ref (b + 0)), (1, .int a1)] := hl
  refine lv_aload_n C.1 C.2.1 d_BN_drop_0 rfl (lv_at hl 0 rfl) ?_
  refine xget C hP o_BN rfl c_BN (k := 4) (v := .ref (b + 5)) (by decide) wg_382 rfl d_BN_drop_1 ?_
  refine lv_iload_n C.1 C.2.1 d_BN_drop_4 rfl (lv_at hl 1 rfl) ?_
  refine xcVNi (rest := []) C hml hl.1 (k_PO_indexOf l D cA b st a1 hp) q_PO_indexOf rfl rfl wn_526 wg_528 ws_16 ⟨Nat.le_of_ble_eq_true rfl, Nat.le_of_ble_eq_true rfl⟩ hP hS o_PO rfl c_PO rfl (Nat.le_of_ble_eq_true rfl) d_BN_drop_5 rfl (fun H locs hP hS => ?_)
  refine lv_istore_n C.1 C.2.1 d_BN_drop_8 rfl hl (by decide) rfl (fun ls hl => ?_)
  have hl : lv_has ls 3 [(2, .int (f_PO_indexOf st a1)), (0, .ref (b + 0)), (1, .int a1)] := hl
  refine lv_iload_n C.1 C.2.1 d_BN_drop_9 rfl (lv_at hl 0 rfl) ?_
  refine lv_iconst (v := (-1)) C.1 C.2.1 d_BN_drop_10 (by decide) ?_
  refine lv_icmp_ne (tgt := 16) C.1 C.2.1 d_BN_drop_11 (by decide) (fun h1 => ?_) (fun h1 => ?_)
  · refine lv_aload_n C.1 C.2.1 d_BN_drop_16 rfl (lv_at hl 1 rfl) ?_
    refine xget C hP o_BN rfl c_BN (k := 4) (v := .ref (b + 5)) (by decide) wg_382 rfl d_BN_drop_17 ?_
    refine lv_iload_n C.1 C.2.1 d_BN_drop_20 rfl (lv_at hl 0 rfl) ?_
    refine xcVNv (rest := []) C hml hl.1 (k_PO_remove l D cA b st (f_PO_indexOf st a1) hp (ix_ok hp h1).1 (ix_ok hp h1).2) q_PO_remove rfl rfl wn_534 wg_536 ws_18 ⟨Nat.le_of_ble_eq_true rfl, Nat.le_of_ble_eq_true rfl⟩ hP hS o_PO rfl c_PO rfl (Nat.le_of_ble_eq_true rfl) d_BN_drop_21 rfl (fun H locs hP hS => ?_)
    refine lv_iconst (v := 1) C.1 C.2.1 d_BN_drop_24 (by decide) ?_
    exact xrz C hlk hr bz_1 hP hS d_BN_drop_25 ⟨by rw [f_BN_drop, if_neg h1], by rw [f_BN_drop, if_neg h1]⟩
  · refine lv_iconst (v := 0) C.1 C.2.1 d_BN_drop_14 (by decide) ?_
    exact xrz C hlk hr bz_0 hP hS d_BN_drop_15 ⟨by rw [f_BN_drop, if_pos h1], by rw [f_BN_drop, if_pos h1]⟩
