def f_BN_carry (st : XS) (a1 : Int32) (a2 : Int32) : XS × Int32 :=
  if (f_PO_indexOf st a1) = (-1) then (st, 0)
  else if a2 = 0 then ((f_BN_settleAlarms (f_BN_deliver (f_PO_remove (f_ME_copy st 65 (st 6 ((f_PO_indexOf st a1)).toNatClampNeg 0).toNatClampNeg) (f_PO_indexOf st a1)))), 1)
  else ((f_BN_settleAlarms (f_BN_deliver (f_ME_copy st 65 (st 6 ((f_PO_indexOf st a1)).toNatClampNeg 0).toNatClampNeg))), 1)
set_option maxRecDepth 100000 in
set_option maxHeartbeats 4000000 in
theorem z_BN_carry {st : XS} {a1 : Int32} {a2 : Int32} : bz (f_BN_carry st a1 a2).2 = (f_BN_carry st a1 a2).2 := by
  unfold f_BN_carry
  repeat' split
  all_goals first | with_reducible exact bz_0 | with_reducible exact bz_1 | with_reducible exact bz_bz _
set_option maxRecDepth 100000 in
set_option maxHeartbeats 4000000 in
theorem fr_BN_carry {st : XS} {a1 : Int32} {a2 : Int32} {a' k' i' : Nat} (h : (a', k') ∉ ([(5, 1), (5, 2), (5, 3), (7, 0), (7, 1), (7, 2), (7, 3), (7, 4), (7, 5), (7, 6), (7, 7), (8, 7), (8, 8), (10, 2), (13, 7), (13, 8), (13, 9), (14, 0), (14, 1), (14, 2), (15, 4), (15, 5), (15, 6), (15, 7), (16, 3), (16, 4)] : List (Nat × Nat))) (h2 : a' ∉ ([6] : List Nat)) : (f_BN_carry st a1 a2).1 a' k' i' = st a' k' i' := by
  unfold f_BN_carry
  repeat' split
  all_goals (try dsimp only)
  all_goals (repeat (first | with_reducible rfl | rw [xu_f (fun e => h (by rw [e]; decide))] | rw [xu_a (fun e => h2 (by rw [e]; decide))] | rw [fr_BN_deliver (fun q => h ((by decide : ∀ z ∈ ([(5, 1), (5, 2), (5, 3), (7, 0), (7, 1), (7, 2), (7, 3), (7, 4), (7, 5), (7, 6), (7, 7), (8, 7), (8, 8), (10, 2), (13, 8), (14, 0), (14, 1), (14, 2), (15, 4), (15, 5), (15, 6), (15, 7), (16, 3), (16, 4)] : List (Nat × Nat)), z ∈ ([(5, 1), (5, 2), (5, 3), (7, 0), (7, 1), (7, 2), (7, 3), (7, 4), (7, 5), (7, 6), (7, 7), (8, 7), (8, 8), (10, 2), (13, 7), (13, 8), (13, 9), (14, 0), (14, 1), (14, 2), (15, 4), (15, 5), (15, 6), (15, 7), (16, 3), (16, 4)] : List (Nat × Nat))) _ q)) (fun q => h2 ((by decide : ∀ z ∈ ([] : List Nat), z ∈ ([6] : List Nat)) _ q))] | rw [fr_BN_settleAlarms (fun q => h ((by decide : ∀ z ∈ ([(5, 1), (5, 2), (5, 3), (7, 0), (7, 1), (7, 2), (7, 3), (7, 4), (7, 5), (7, 6), (7, 7), (13, 7), (13, 8), (13, 9)] : List (Nat × Nat)), z ∈ ([(5, 1), (5, 2), (5, 3), (7, 0), (7, 1), (7, 2), (7, 3), (7, 4), (7, 5), (7, 6), (7, 7), (8, 7), (8, 8), (10, 2), (13, 7), (13, 8), (13, 9), (14, 0), (14, 1), (14, 2), (15, 4), (15, 5), (15, 6), (15, 7), (16, 3), (16, 4)] : List (Nat × Nat))) _ q)) (fun q => h2 ((by decide : ∀ z ∈ ([] : List Nat), z ∈ ([6] : List Nat)) _ q))] | rw [fr_ME_copy (fun q => h ((by decide : ∀ z ∈ ([(7, 0), (7, 1), (7, 2), (7, 3), (7, 4), (7, 5), (7, 6), (7, 7)] : List (Nat × Nat)), z ∈ ([(5, 1), (5, 2), (5, 3), (7, 0), (7, 1), (7, 2), (7, 3), (7, 4), (7, 5), (7, 6), (7, 7), (8, 7), (8, 8), (10, 2), (13, 7), (13, 8), (13, 9), (14, 0), (14, 1), (14, 2), (15, 4), (15, 5), (15, 6), (15, 7), (16, 3), (16, 4)] : List (Nat × Nat))) _ q)) (fun q => h2 ((by decide : ∀ z ∈ ([] : List Nat), z ∈ ([6] : List Nat)) _ q))] | rw [fr_PO_remove (fun q => h ((by decide : ∀ z ∈ ([(5, 1)] : List (Nat × Nat)), z ∈ ([(5, 1), (5, 2), (5, 3), (7, 0), (7, 1), (7, 2), (7, 3), (7, 4), (7, 5), (7, 6), (7, 7), (8, 7), (8, 8), (10, 2), (13, 7), (13, 8), (13, 9), (14, 0), (14, 1), (14, 2), (15, 4), (15, 5), (15, 6), (15, 7), (16, 3), (16, 4)] : List (Nat × Nat))) _ q)) (fun q => h2 ((by decide : ∀ z ∈ ([6] : List Nat), z ∈ ([6] : List Nat)) _ q))]))
set_option maxRecDepth 100000 in
set_option maxHeartbeats 4000000 in
theorem k_BN_carry (l : Launch) (D : va_G) (cA : Nat → ClassId) (b : Nat) (st : XS) (a1 : Int32) (a2 : Int32) (hp : pok st) (ho : dok st) (hm : mall st) (hy : (st 0 6 0).toInt ≤ (16 : Nat)) : xMi cw D cA b l y_BN_carry (Cond.code y_BN_carry b_BN_carry 4 (some .boolean)) { frames := 6, cells := 0, slots := 0, locals := 137 } st [.ref (b + 0), .int a1, .int a2] (f_BN_carry st a1 a2).2 (f_BN_carry st a1 a2).1 := by
  refine xMi_of rfl (by decide) (Nat.le_of_ble_eq_true rfl) ?_
  intro p e s m below meth c ls C hlk hr hml hl hP hS
  have hl : lv_has ls 4 [(0, .ref (b + 0)), (1, .int a1), (2, .int a2)] := hl
  refine lv_aload_n C.1 C.2.1 d_BN_carry_0 rfl (lv_at hl 0 rfl) ?_
  refine xget C hP o_BN rfl c_BN (k := 4) (v := .ref (b + 5)) (by decide) wg_382 rfl d_BN_carry_1 ?_
  refine lv_iload_n C.1 C.2.1 d_BN_carry_4 rfl (lv_at hl 1 rfl) ?_
  refine xcVNi (rest := []) C hml hl.1 (k_PO_indexOf l D cA b st a1 hp) q_PO_indexOf rfl rfl wn_526 wg_528 ws_16 ⟨Nat.le_of_ble_eq_true rfl, Nat.le_of_ble_eq_true rfl⟩ hP hS o_PO rfl c_PO rfl (Nat.le_of_ble_eq_true rfl) d_BN_carry_5 rfl (fun H locs hP hS => ?_)
  refine lv_istore_n C.1 C.2.1 d_BN_carry_8 rfl hl (by decide) rfl (fun ls hl => ?_)
  have hl : lv_has ls 4 [(3, .int (f_PO_indexOf st a1)), (0, .ref (b + 0)), (1, .int a1), (2, .int a2)] := hl
  refine lv_iload_n C.1 C.2.1 d_BN_carry_9 rfl (lv_at hl 0 rfl) ?_
  refine lv_iconst (v := (-1)) C.1 C.2.1 d_BN_carry_10 (by decide) ?_
  refine lv_icmp_ne (tgt := 16) C.1 C.2.1 d_BN_carry_11 (by decide) (fun h1 => ?_) (fun h1 => ?_)
  · refine lv_aload_n C.1 C.2.1 d_BN_carry_16 rfl (lv_at hl 1 rfl) ?_
    refine xget C hP o_BN rfl c_BN (k := 5) (v := .ref (b + 72)) (by decide) wg_383 rfl d_BN_carry_17 ?_
    refine lv_aload_n C.1 C.2.1 d_BN_carry_20 rfl (lv_at hl 1 rfl) ?_
    refine xget C hP o_BN rfl c_BN (k := 4) (v := .ref (b + 5)) (by decide) wg_382 rfl d_BN_carry_21 ?_
    refine xgetN C hP o_PO rfl c_PO (k := 0) (v := .ref (b + 6)) (by decide) wn_96 rfl d_BN_carry_24 ?_
    refine lv_iload_n C.1 C.2.1 d_BN_carry_27 rfl (lv_at hl 0 rfl) ?_
    refine xaald C hP o_sa rfl (E := R_ME) rfl (v := b + (7 + (st 6 ((f_PO_indexOf st a1)).toNatClampNeg 0).toNatClampNeg)) (rm_in hp (ix_ok hp h1).1 (ix_ok hp h1).2) rfl d_BN_carry_28 ?_
    refine xcVNv (rest := []) C hml hl.1 (k_ME_copy l D cA b st 72 65 o_IH (7 + (st 6 ((f_PO_indexOf st a1)).toNatClampNeg 0).toNatClampNeg) (st 6 ((f_PO_indexOf st a1)).toNatClampNeg 0).toNatClampNeg (o_ME (hp.2.2 _ (xin_lt (rm_in hp (ix_ok hp h1).1 (ix_ok hp h1).2))))) q_ME_copy rfl rfl wn_530 wg_532 ws_17 ⟨Nat.le_of_ble_eq_true rfl, Nat.le_of_ble_eq_true rfl⟩ hP hS o_IH rfl c_ME rfl (Nat.le_of_ble_eq_true rfl) d_BN_carry_29 rfl (fun H locs hP hS => ?_)
    refine lv_iload_n C.1 C.2.1 d_BN_carry_32 rfl (lv_at hl 3 rfl) ?_
    refine lv_if_ne (tgt := 44) C.1 C.2.1 d_BN_carry_33 (by decide) (fun h2 => ?_) (fun h2 => ?_)
    · refine lv_aload_n C.1 C.2.1 d_BN_carry_44 rfl (lv_at hl 1 rfl) ?_
      refine xcVv (rest := []) C hml hl.1 (k_BN_deliver l D cA b (f_ME_copy st 65 (st 6 ((f_PO_indexOf st a1)).toNatClampNeg 0).toNatClampNeg) (pok_of hp (fr_ME_copy (by decide) (by decide)) (fun _ => fr_ME_copy (by simp) (by decide))) (mok_copy (hp.2.2 _ (xin_lt (rm_in hp (ix_ok hp h1).1 (ix_ok hp h1).2))) (mok_ix hm (ix_ok hp h1).1 (ix_ok hp h1).2)) (by rw [fr_ME_copy (by decide) (by decide)]; exact hy)) q_BN_deliver rfl rfl wg_538 wg_540 ws_19 ⟨Nat.le_of_ble_eq_true rfl, Nat.le_of_ble_eq_true rfl⟩ hP hS o_BN rfl c_BN rfl (Nat.le_of_ble_eq_true rfl) d_BN_carry_45 rfl (fun H locs hP hS => ?_)
      refine lv_aload_n C.1 C.2.1 d_BN_carry_48 rfl (lv_at hl 1 rfl) ?_
      refine xcVv (rest := []) C hml hl.1 (k_BN_settleAlarms l D cA b (f_BN_deliver (f_ME_copy st 65 (st 6 ((f_PO_indexOf st a1)).toNatClampNeg 0).toNatClampNeg)) (p_BN_deliver (pok_of hp (fr_ME_copy (by decide) (by decide)) (fun _ => fr_ME_copy (by simp) (by decide)))) (dok_of (dok_of ho (fun _ => fr_ME_copy (by decide) (by decide))) (fun _ => fr_BN_deliver (by decide) (by decide)))) q_BN_settleAlarms rfl rfl wg_507 wg_509 ws_13 ⟨Nat.le_of_ble_eq_true rfl, Nat.le_of_ble_eq_true rfl⟩ hP hS o_BN rfl c_BN rfl (Nat.le_of_ble_eq_true rfl) d_BN_carry_49 rfl (fun H locs hP hS => ?_)
      refine lv_iconst (v := 1) C.1 C.2.1 d_BN_carry_52 (by decide) ?_
      exact xrz C hlk hr bz_1 hP hS d_BN_carry_53 ⟨by rw [f_BN_carry, if_neg h1, if_neg h2], by rw [f_BN_carry, if_neg h1, if_neg h2]⟩
    · refine lv_aload_n C.1 C.2.1 d_BN_carry_36 rfl (lv_at hl 1 rfl) ?_
      refine xget C hP o_BN rfl c_BN (k := 4) (v := .ref (b + 5)) (by decide) wg_382 rfl d_BN_carry_37 ?_
      refine lv_iload_n C.1 C.2.1 d_BN_carry_40 rfl (lv_at hl 0 rfl) ?_
      refine xcVNv (rest := []) C hml hl.1 (k_PO_remove l D cA b (f_ME_copy st 65 (st 6 ((f_PO_indexOf st a1)).toNatClampNeg 0).toNatClampNeg) (f_PO_indexOf st a1) (pok_of hp (fr_ME_copy (by decide) (by decide)) (fun _ => fr_ME_copy (by simp) (by decide))) (ix_ok hp h1).1 (by rw [fr_ME_copy (by decide) (by decide)]; exact (ix_ok hp h1).2)) q_PO_remove rfl rfl wn_534 wg_536 ws_18 ⟨Nat.le_of_ble_eq_true rfl, Nat.le_of_ble_eq_true rfl⟩ hP hS o_PO rfl c_PO rfl (Nat.le_of_ble_eq_true rfl) d_BN_carry_41 rfl (fun H locs hP hS => ?_)
      refine lv_aload_n C.1 C.2.1 d_BN_carry_44 rfl (lv_at hl 1 rfl) ?_
      refine xcVv (rest := []) C hml hl.1 (k_BN_deliver l D cA b (f_PO_remove (f_ME_copy st 65 (st 6 ((f_PO_indexOf st a1)).toNatClampNeg 0).toNatClampNeg) (f_PO_indexOf st a1)) (p_PO_remove (pok_of hp (fr_ME_copy (by decide) (by decide)) (fun _ => fr_ME_copy (by simp) (by decide))) (ix_ok hp h1).1 (by rw [fr_ME_copy (by decide) (by decide)]; exact (ix_ok hp h1).2)) (mok_of (mok_copy (hp.2.2 _ (xin_lt (rm_in hp (ix_ok hp h1).1 (ix_ok hp h1).2))) (mok_ix hm (ix_ok hp h1).1 (ix_ok hp h1).2)) (fun _ _ => fr_PO_remove (by simp) (by decide))) (by rw [fr_PO_remove (by decide) (by decide), fr_ME_copy (by decide) (by decide)]; exact hy)) q_BN_deliver rfl rfl wg_538 wg_540 ws_19 ⟨Nat.le_of_ble_eq_true rfl, Nat.le_of_ble_eq_true rfl⟩ hP hS o_BN rfl c_BN rfl (Nat.le_of_ble_eq_true rfl) d_BN_carry_45 rfl (fun H locs hP hS => ?_)
      refine lv_aload_n C.1 C.2.1 d_BN_carry_48 rfl (lv_at hl 1 rfl) ?_
      refine xcVv (rest := []) C hml hl.1 (k_BN_settleAlarms l D cA b (f_BN_deliver (f_PO_remove (f_ME_copy st 65 (st 6 ((f_PO_indexOf st a1)).toNatClampNeg 0).toNatClampNeg) (f_PO_indexOf st a1))) (p_BN_deliver (p_PO_remove (pok_of hp (fr_ME_copy (by decide) (by decide)) (fun _ => fr_ME_copy (by simp) (by decide))) (ix_ok hp h1).1 (by rw [fr_ME_copy (by decide) (by decide)]; exact (ix_ok hp h1).2))) (dok_of (dok_of (dok_of ho (fun _ => fr_ME_copy (by decide) (by decide))) (fun _ => fr_PO_remove (by decide) (by decide))) (fun _ => fr_BN_deliver (by decide) (by decide)))) q_BN_settleAlarms rfl rfl wg_507 wg_509 ws_13 ⟨Nat.le_of_ble_eq_true rfl, Nat.le_of_ble_eq_true rfl⟩ hP hS o_BN rfl c_BN rfl (Nat.le_of_ble_eq_true rfl) d_BN_carry_49 rfl (fun H locs hP hS => ?_)
      refine lv_iconst (v := 1) C.1 C.2.1 d_BN_carry_52 (by decide) ?_
      exact xrz C hlk hr bz_1 hP hS d_BN_carry_53 ⟨by rw [f_BN_carry, if_neg h1, if_pos h2], by rw [f_BN_carry, if_neg h1, if_pos h2]⟩
  · refine lv_iconst (v := 0) C.1 C.2.1 d_BN_carry_14 (by decide) ?_
    exact xrz C hlk hr bz_0 hP hS d_BN_carry_15 ⟨by rw [f_BN_carry, if_pos h1], by rw [f_BN_carry, if_pos h1]⟩
