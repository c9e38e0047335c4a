def f_BN_confirm (st : XS) (a1 : Int32) : XS × Int32 :=
  if (f_BN_isSealed st a1) = 0 then (st, 0)
  else if (f_BN_isBed (st 8 3 a1.toNatClampNeg)) = 0 then (st, 0)
  else if (st 2 ((st 8 3 a1.toNatClampNeg)).toNatClampNeg 0) = 0 then (st, 0)
  else if (st 8 6 a1.toNatClampNeg) = 0 then ((f_DE_tie st a1.toNatClampNeg (st 2 ((st 8 3 a1.toNatClampNeg)).toNatClampNeg 0)), 1)
  else (st, 0)
set_option maxRecDepth 100000 in
set_option maxHeartbeats 4000000 in
theorem z_BN_confirm {st : XS} {a1 : Int32} : bz (f_BN_confirm st a1).2 = (f_BN_confirm st a1).2 := by
  unfold f_BN_confirm
  repeat' split
  all_goals first | with_reducible exact bz_0 | with_reducible exact bz_1 | with_reducible exact bz_bz _ | with_reducible exact z_BN_isBed | with_reducible exact z_BN_isSealed
set_option maxRecDepth 100000 in
set_option maxHeartbeats 4000000 in
theorem fr_BN_confirm {st : XS} {a1 : Int32} {a' k' i' : Nat} (h : (a', k') ∉ ([(8, 6), (12, 7)] : List (Nat × Nat))) (h2 : a' ∉ ([] : List Nat)) : (f_BN_confirm st a1).1 a' k' i' = st a' k' i' := by
  unfold f_BN_confirm
  repeat' split
  all_goals (try dsimp only)
  all_goals (repeat (first | with_reducible rfl | rw [xu_f (fun e => h (by rw [e]; decide))] | rw [fr_DE_tie (fun q => h ((by decide : ∀ z ∈ ([(8, 6), (12, 7)] : List (Nat × Nat)), z ∈ ([(8, 6), (12, 7)] : List (Nat × Nat))) _ q)) (fun q => h2 ((by decide : ∀ z ∈ ([] : List Nat), z ∈ ([] : List Nat)) _ q))]))
theorem p_BN_confirm {st : XS} {a1 : Int32} (h : pok st) : pok (f_BN_confirm st a1).1 := pok_of h (fr_BN_confirm (by decide) (by decide)) (fun _ => fr_BN_confirm (by simp) (by decide))
set_option maxRecDepth 100000 in
set_option maxHeartbeats 4000000 in
theorem k_BN_confirm (l : Launch) (D : va_G) (cA : Nat → ClassId) (b : Nat) (st : XS) (a1 : Int32) (ho : dok st) : xMi cw D cA b l y_BN_confirm (Cond.code y_BN_confirm b_BN_confirm 4 (some .boolean)) { frames := 2, cells := 0, slots := 0, locals := 41 } st [.ref (b + 0), .int a1] (f_BN_confirm st a1).2 (f_BN_confirm st a1).1 := by
  refine xMi_of rfl (by decide) (Nat.le_of_ble_eq_true rfl) ?_
  intro p e s m below meth c ls C hlk hr hml hl hP hS
  have hl : lv_has ls 4 [(0, .ref (b + 0)), (1, .int a1)] := hl
  refine lv_aload_n C.1 C.2.1 d_BN_confirm_0 rfl (lv_at hl 0 rfl) ?_
  refine lv_iload_n C.1 C.2.1 d_BN_confirm_1 rfl (lv_at hl 1 rfl) ?_
  refine xcVi (rest := []) C hml hl.1 (k_BN_isSealed l D cA b st a1) q_BN_isSealed rfl rfl wg_467 wg_469 ws_6 ⟨Nat.le_of_ble_eq_true rfl, Nat.le_of_ble_eq_true rfl⟩ hP hS o_BN rfl c_BN rfl (Nat.le_of_ble_eq_true rfl) d_BN_confirm_2 rfl (fun H locs hP hS => ?_)
  refine lv_if_ne (tgt := 10) C.1 C.2.1 d_BN_confirm_5 (by decide) (fun h1 => ?_) (fun h1 => ?_)
  · refine lv_aload_n C.1 C.2.1 d_BN_confirm_10 rfl (lv_at hl 0 rfl) ?_
    refine xget C hP o_BN rfl c_BN (k := 0) (v := .ref (b + 1)) (by decide) wg_378 rfl d_BN_confirm_11 ?_
    refine lv_iload_n C.1 C.2.1 d_BN_confirm_14 rfl (lv_at hl 1 rfl) ?_
    refine xaald C hP o_da rfl (E := R_DE) rfl (v := b + (73 + 20 * a1.toNatClampNeg)) (vd_isSealed h1) rfl d_BN_confirm_15 ?_
    refine lv_astore_n C.1 C.2.1 d_BN_confirm_16 rfl hl (by decide) rfl (fun ls hl => ?_)
    have hl : lv_has ls 4 [(2, .ref (b + (73 + 20 * a1.toNatClampNeg))), (0, .ref (b + 0)), (1, .int a1)] := hl
    refine lv_aload_n C.1 C.2.1 d_BN_confirm_17 rfl (lv_at hl 0 rfl) ?_
    refine xgetN C hP (o_DE (xin_lt (vd_isSealed h1))) rfl c_DE (k := 3) (v := .int (st 8 3 a1.toNatClampNeg)) (by decide) wn_287 rfl d_BN_confirm_18 ?_
    refine xcSi (rest := []) C hml hl.1 (k_BN_isBed l D cA b st (st 8 3 a1.toNatClampNeg)) q_BN_isBed rfl rfl wg_413 wg_414 ⟨Nat.le_of_ble_eq_true rfl, Nat.le_of_ble_eq_true rfl⟩ hP hS rfl (Nat.le_of_ble_eq_true rfl) d_BN_confirm_21 rfl (fun H locs hP hS => ?_)
    refine lv_if_eq (tgt := 39) C.1 C.2.1 d_BN_confirm_24 (by decide) (fun h2 => ?_) (fun h2 => ?_)
    · refine lv_iconst (v := 0) C.1 C.2.1 d_BN_confirm_39 (by decide) ?_
      refine lv_istore_n C.1 C.2.1 d_BN_confirm_40 rfl hl (by decide) rfl (fun ls hl => ?_)
      have hl : lv_has ls 4 [(3, .int 0), (2, .ref (b + (73 + 20 * a1.toNatClampNeg))), (0, .ref (b + 0)), (1, .int a1)] := hl
      refine lv_iload_n C.1 C.2.1 d_BN_confirm_41 rfl (lv_at hl 0 rfl) ?_
      refine lv_if_eq (tgt := 52) C.1 C.2.1 d_BN_confirm_42 (by decide) (fun _ => ?_) (fun h => absurd (by decide) h)
      refine lv_iconst (v := 0) C.1 C.2.1 d_BN_confirm_52 (by decide) ?_
      exact xrz C hlk hr bz_0 hP hS d_BN_confirm_53 ⟨by rw [f_BN_confirm, if_neg h1, if_pos h2], by rw [f_BN_confirm, if_neg h1, if_pos h2]⟩
    · refine lv_aload_n C.1 C.2.1 d_BN_confirm_27 rfl (lv_at hl 1 rfl) ?_
      refine xget C hP o_BN rfl c_BN (k := 1) (v := .ref (b + 2)) (by decide) wg_379 rfl d_BN_confirm_28 ?_
      refine lv_aload_n C.1 C.2.1 d_BN_confirm_31 rfl (lv_at hl 0 rfl) ?_
      refine xgetN C hP (o_DE (xin_lt (vd_isSealed h1))) rfl c_DE (k := 3) (v := .int (st 8 3 a1.toNatClampNeg)) (by decide) wn_287 rfl d_BN_confirm_32 ?_
      refine xiald C hP o_pa rfl (v := (st 2 ((st 8 3 a1.toNatClampNeg)).toNatClampNeg 0)) (vd_isBed h2) rfl d_BN_confirm_35 ?_
      refine lv_goto (tgt := 40) C.1 C.2.1 d_BN_confirm_36 (by decide) ?_
      refine lv_istore_n C.1 C.2.1 d_BN_confirm_40 rfl hl (by decide) rfl (fun ls hl => ?_)
      have hl : lv_has ls 4 [(3, .int (st 2 ((st 8 3 a1.toNatClampNeg)).toNatClampNeg 0)), (2, .ref (b + (73 + 20 * a1.toNatClampNeg))), (0, .ref (b + 0)), (1, .int a1)] := hl
      refine lv_iload_n C.1 C.2.1 d_BN_confirm_41 rfl (lv_at hl 0 rfl) ?_
      refine lv_if_eq (tgt := 52) C.1 C.2.1 d_BN_confirm_42 (by decide) (fun h3 => ?_) (fun h3 => ?_)
      · refine lv_iconst (v := 0) C.1 C.2.1 d_BN_confirm_52 (by decide) ?_
        exact xrz C hlk hr bz_0 hP hS d_BN_confirm_53 ⟨by rw [f_BN_confirm, if_neg h1, if_neg h2, if_pos h3], by rw [f_BN_confirm, if_neg h1, if_neg h2, if_pos h3]⟩
      · refine lv_aload_n C.1 C.2.1 d_BN_confirm_45 rfl (lv_at hl 1 rfl) ?_
        refine xgetN C hP (o_DE (xin_lt (vd_isSealed h1))) rfl c_DE (k := 6) (v := .int (st 8 6 a1.toNatClampNeg)) (by decide) wn_293 rfl d_BN_confirm_46 ?_
        refine lv_if_eq (tgt := 54) C.1 C.2.1 d_BN_confirm_49 (by decide) (fun h4 => ?_) (fun h4 => ?_)
        · refine lv_aload_n C.1 C.2.1 d_BN_confirm_54 rfl (lv_at hl 1 rfl) ?_
          refine lv_iload_n C.1 C.2.1 d_BN_confirm_55 rfl (lv_at hl 0 rfl) ?_
          refine xcVNv (rest := []) C hml hl.1 (k_DE_tie l D cA b st a1.toNatClampNeg (xin_lt (vd_isSealed h1)) (st 2 ((st 8 3 a1.toNatClampNeg)).toNatClampNeg 0) (ho _ (xin_lt (vd_isSealed h1)))) q_DE_tie rfl rfl wn_479 wg_481 ws_7 ⟨Nat.le_of_ble_eq_true rfl, Nat.le_of_ble_eq_true rfl⟩ hP hS (o_DE (xin_lt (vd_isSealed h1))) rfl c_DE rfl (Nat.le_of_ble_eq_true rfl) d_BN_confirm_56 rfl (fun H locs hP hS => ?_)
          refine lv_iconst (v := 1) C.1 C.2.1 d_BN_confirm_59 (by decide) ?_
          exact xrz C hlk hr bz_1 hP hS d_BN_confirm_60 ⟨by rw [f_BN_confirm, if_neg h1, if_neg h2, if_neg h3, if_pos h4], by rw [f_BN_confirm, if_neg h1, if_neg h2, if_neg h3, if_pos h4]⟩
        · refine lv_iconst (v := 0) C.1 C.2.1 d_BN_confirm_52 (by decide) ?_
          exact xrz C hlk hr bz_0 hP hS d_BN_confirm_53 ⟨by rw [f_BN_confirm, if_neg h1, if_neg h2, if_neg h3, if_neg h4], by rw [f_BN_confirm, if_neg h1, if_neg h2, if_neg h3, if_neg h4]⟩
  · refine lv_iconst (v := 0) C.1 C.2.1 d_BN_confirm_8 (by decide) ?_
    exact xrz C hlk hr bz_0 hP hS d_BN_confirm_9 ⟨by rw [f_BN_confirm, if_pos h1], by rw [f_BN_confirm, if_pos h1]⟩
