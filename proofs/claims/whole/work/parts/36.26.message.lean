def f_MO_message (st : XS) (a1 : Int32) (a2 : Int32) : XS × Int32 :=
  if 0 ≤ (f_MO_find st a1) then (if a2 < 0 then ((xu st 0 0 0 2), 0)
    else if a2 ≤ 4 then (if a2 = 0 then ((xu st 0 0 0 0), (st 37 ((f_MO_find st a1)).toNatClampNeg 0))
      else if a2 = 1 then ((xu st 0 0 0 0), (st 38 ((f_MO_find st a1)).toNatClampNeg 0))
      else if a2 = 2 then ((xu st 0 0 0 0), (st 39 ((f_MO_find st a1)).toNatClampNeg 0))
      else if a2 = 3 then ((xu st 0 0 0 0), (st 40 ((f_MO_find st a1)).toNatClampNeg 0))
      else ((xu st 0 0 0 0), (st 41 ((f_MO_find st a1)).toNatClampNeg 0)))
    else ((xu st 0 0 0 2), 0))
  else ((xu st 0 0 0 1), 0)
set_option maxRecDepth 100000 in
set_option maxHeartbeats 4000000 in
theorem fr_MO_message {st : XS} {a1 : Int32} {a2 : Int32} {a' k' i' : Nat} (h : (a', k') ∉ ([(0, 0)] : List (Nat × Nat))) (h2 : a' ∉ ([] : List Nat)) : (f_MO_message st a1 a2).1 a' k' i' = st a' k' i' := by
  unfold f_MO_message
  repeat' split
  all_goals (try dsimp only)
  all_goals (repeat (first | with_reducible rfl | rw [xu_f (fun e => h (by rw [e]; decide))]))
theorem p_MO_message {st : XS} {a1 : Int32} {a2 : Int32} (h : qok st) : qok (f_MO_message st a1 a2).1 := qok_of h (fr_MO_message (by decide) (by decide))
set_option maxRecDepth 100000 in
set_option maxHeartbeats 4000000 in
theorem k_MO_message (l : Launch) (D : va_G) (cA : Nat → ClassId) (b : Nat) (st : XS) (a1 : Int32) (a2 : Int32) (hq : qok st) : xMi mw D cA b l y_MO_message (Cond.code y_MO_message b_MO_message 4 (some .int)) { frames := 1, cells := 0, slots := 0, locals := 23 } st [.ref (b + 0), .int a1, .int a2] (f_MO_message st a1 a2).2 (f_MO_message st a1 a2).1 := by
  refine xMi_of rfl (by decide) (Nat.le_of_ble_eq_true rfl) ?_
  intro p e s m below meth c ls C hlk hr hml hl hP hS
  have hl : lv_has ls 4 [(0, .ref (b + 0)), (1, .int a1), (2, .int a2)] := hl
  refine lv_aload_n C.1 C.2.1 d_MO_message_0 rfl (lv_at hl 0 rfl) ?_
  refine lv_iload_n C.1 C.2.1 d_MO_message_1 rfl (lv_at hl 1 rfl) ?_
  refine xcVi (rest := []) C hml hl.1 (k_MO_find l D cA b st a1 hq) q_MO_find rfl rfl wg_1175 wg_1177 ws_64 ⟨Nat.le_of_ble_eq_true rfl, Nat.le_of_ble_eq_true rfl⟩ hP hS o_MO rfl c_MO rfl (Nat.le_of_ble_eq_true rfl) d_MO_message_2 rfl (fun H locs hP hS => ?_)
  refine lv_istore_n C.1 C.2.1 d_MO_message_5 rfl hl (by decide) rfl (fun ls hl => ?_)
  have hl : lv_has ls 4 [(3, .int (f_MO_find st a1)), (0, .ref (b + 0)), (1, .int a1), (2, .int a2)] := hl
  refine lv_aload_n C.1 C.2.1 d_MO_message_6 rfl (lv_at hl 1 rfl) ?_
  refine lv_iload_n C.1 C.2.1 d_MO_message_7 rfl (lv_at hl 0 rfl) ?_
  refine lv_if_ge (tgt := 15) C.1 C.2.1 d_MO_message_8 (by decide) (fun h1 => ?_) (fun h1 => ?_)
  · refine lv_iload_n C.1 C.2.1 d_MO_message_15 rfl (lv_at hl 3 rfl) ?_
    refine lv_if_lt (tgt := 24) C.1 C.2.1 d_MO_message_16 (by decide) (fun h2 => ?_) (fun h2 => ?_)
    · refine lv_iconst (v := 2) C.1 C.2.1 d_MO_message_24 (by decide) ?_
      refine lv_goto (tgt := 29) C.1 C.2.1 d_MO_message_25 (by decide) ?_
      refine xput mw_inj C hP hS o_MO rfl c_MO (k := 0) (x := 2) (by decide) wg_877 rfl rfl rfl rfl d_MO_message_29 (fun H locs hP hS => ?_)
      refine lv_aload_n C.1 C.2.1 d_MO_message_32 rfl (lv_at hl 1 rfl) ?_
      refine xget C hP o_MO rfl c_MO (k := 0) (v := .int 2) (by decide) wg_877 (congrArg Value.int xu_s) d_MO_message_33 ?_
      refine lv_if_le (tgt := 41) C.1 C.2.1 d_MO_message_36 (by decide) (fun h => absurd h (by decide)) (fun _ => ?_)
      refine lv_iconst (v := 0) C.1 C.2.1 d_MO_message_39 (by decide) ?_
      exact xri C hlk hr hP hS d_MO_message_40 ⟨by rw [f_MO_message, if_pos h1, if_pos h2], by rw [f_MO_message, if_pos h1, if_pos h2]⟩
    · refine lv_iload_n C.1 C.2.1 d_MO_message_19 rfl (lv_at hl 3 rfl) ?_
      refine lv_iconst (v := 4) C.1 C.2.1 d_MO_message_20 (by decide) ?_
      refine lv_icmp_le (tgt := 28) C.1 C.2.1 d_MO_message_21 (by decide) (fun h3 => ?_) (fun h3 => ?_)
      · refine lv_iconst (v := 0) C.1 C.2.1 d_MO_message_28 (by decide) ?_
        refine xput mw_inj C hP hS o_MO rfl c_MO (k := 0) (x := 0) (by decide) wg_877 rfl rfl rfl rfl d_MO_message_29 (fun H locs hP hS => ?_)
        refine lv_aload_n C.1 C.2.1 d_MO_message_32 rfl (lv_at hl 1 rfl) ?_
        refine xget C hP o_MO rfl c_MO (k := 0) (v := .int 0) (by decide) wg_877 (congrArg Value.int xu_s) d_MO_message_33 ?_
        refine lv_if_le (tgt := 41) C.1 C.2.1 d_MO_message_36 (by decide) (fun _ => ?_) (fun h => absurd (by decide) h)
        refine lv_iload_n C.1 C.2.1 d_MO_message_41 rfl (lv_at hl 3 rfl) ?_
        by_cases h4 : a2 = 0
        · refine lv_tableIn (tgt := 72) (off := 30) C.1 C.2.1 d_MO_message_42 (by rw [h4]; decide) (by rw [h4]; decide) (by rw [h4]; rfl) (by decide) ?_
          refine lv_aload_n C.1 C.2.1 d_MO_message_72 rfl (lv_at hl 1 rfl) ?_
          refine xget C hP o_MO rfl c_MO (k := 41) (v := .ref (b + 37)) (by decide) wg_918 rfl d_MO_message_73 ?_
          refine lv_iload_n C.1 C.2.1 d_MO_message_76 rfl (lv_at hl 0 rfl) ?_
          refine xiald C hP om_37 rfl (v := (st 37 ((f_MO_find st a1)).toNatClampNeg 0)) (fi_in hq h1) (congrArg Value.int (xu_a (by decide))) d_MO_message_77 ?_
          exact xri C hlk hr hP hS d_MO_message_78 ⟨by rw [f_MO_message, if_pos h1, if_neg h2, if_pos h3, if_pos h4], by rw [f_MO_message, if_pos h1, if_neg h2, if_pos h3, if_pos h4]⟩
        by_cases h5 : a2 = 1
        · refine lv_tableIn (tgt := 79) (off := 37) C.1 C.2.1 d_MO_message_42 (by rw [h5]; decide) (by rw [h5]; decide) (by rw [h5]; rfl) (by decide) ?_
          refine lv_aload_n C.1 C.2.1 d_MO_message_79 rfl (lv_at hl 1 rfl) ?_
          refine xget C hP o_MO rfl c_MO (k := 42) (v := .ref (b + 38)) (by decide) wg_919 rfl d_MO_message_80 ?_
          refine lv_iload_n C.1 C.2.1 d_MO_message_83 rfl (lv_at hl 0 rfl) ?_
          refine xiald C hP om_38 rfl (v := (st 38 ((f_MO_find st a1)).toNatClampNeg 0)) (fi_in hq h1) (congrArg Value.int (xu_a (by decide))) d_MO_message_84 ?_
          exact xri C hlk hr hP hS d_MO_message_85 ⟨by rw [f_MO_message, if_pos h1, if_neg h2, if_pos h3, if_neg h4, if_pos h5], by rw [f_MO_message, if_pos h1, if_neg h2, if_pos h3, if_neg h4, if_pos h5]⟩
        by_cases h6 : a2 = 2
        · refine lv_tableIn (tgt := 86) (off := 44) C.1 C.2.1 d_MO_message_42 (by rw [h6]; decide) (by rw [h6]; decide) (by rw [h6]; rfl) (by decide) ?_
          refine lv_aload_n C.1 C.2.1 d_MO_message_86 rfl (lv_at hl 1 rfl) ?_
          refine xget C hP o_MO rfl c_MO (k := 43) (v := .ref (b + 39)) (by decide) wg_920 rfl d_MO_message_87 ?_
          refine lv_iload_n C.1 C.2.1 d_MO_message_90 rfl (lv_at hl 0 rfl) ?_
          refine xiald C hP om_39 rfl (v := (st 39 ((f_MO_find st a1)).toNatClampNeg 0)) (fi_in hq h1) (congrArg Value.int (xu_a (by decide))) d_MO_message_91 ?_
          exact xri C hlk hr hP hS d_MO_message_92 ⟨by rw [f_MO_message, if_pos h1, if_neg h2, if_pos h3, if_neg h4, if_neg h5, if_pos h6], by rw [f_MO_message, if_pos h1, if_neg h2, if_pos h3, if_neg h4, if_neg h5, if_pos h6]⟩
        by_cases h7 : a2 = 3
        · refine lv_tableIn (tgt := 93) (off := 51) C.1 C.2.1 d_MO_message_42 (by rw [h7]; decide) (by rw [h7]; decide) (by rw [h7]; rfl) (by decide) ?_
          refine lv_aload_n C.1 C.2.1 d_MO_message_93 rfl (lv_at hl 1 rfl) ?_
          refine xget C hP o_MO rfl c_MO (k := 44) (v := .ref (b + 40)) (by decide) wg_921 rfl d_MO_message_94 ?_
          refine lv_iload_n C.1 C.2.1 d_MO_message_97 rfl (lv_at hl 0 rfl) ?_
          refine xiald C hP om_40 rfl (v := (st 40 ((f_MO_find st a1)).toNatClampNeg 0)) (fi_in hq h1) (congrArg Value.int (xu_a (by decide))) d_MO_message_98 ?_
          exact xri C hlk hr hP hS d_MO_message_99 ⟨by rw [f_MO_message, if_pos h1, if_neg h2, if_pos h3, if_neg h4, if_neg h5, if_neg h6, if_pos h7], by rw [f_MO_message, if_pos h1, if_neg h2, if_pos h3, if_neg h4, if_neg h5, if_neg h6, if_pos h7]⟩
        refine lv_tableOut (tgt := 100) C.1 C.2.1 d_MO_message_42 (by have eh4 := lv_neT h4 (a := 0) (by decide); have eh5 := lv_neT h5 (a := 1) (by decide); have eh6 := lv_neT h6 (a := 2) (by decide); have eh7 := lv_neT h7 (a := 3) (by decide); omega) (by decide) ?_
        refine lv_aload_n C.1 C.2.1 d_MO_message_100 rfl (lv_at hl 1 rfl) ?_
        refine xget C hP o_MO rfl c_MO (k := 45) (v := .ref (b + 41)) (by decide) wg_922 rfl d_MO_message_101 ?_
        refine lv_iload_n C.1 C.2.1 d_MO_message_104 rfl (lv_at hl 0 rfl) ?_
        refine xiald C hP om_41 rfl (v := (st 41 ((f_MO_find st a1)).toNatClampNeg 0)) (fi_in hq h1) (congrArg Value.int (xu_a (by decide))) d_MO_message_105 ?_
        exact xri C hlk hr hP hS d_MO_message_106 ⟨by rw [f_MO_message, if_pos h1, if_neg h2, if_pos h3, if_neg h4, if_neg h5, if_neg h6, if_neg h7], by rw [f_MO_message, if_pos h1, if_neg h2, if_pos h3, if_neg h4, if_neg h5, if_neg h6, if_neg h7]⟩
      · refine lv_iconst (v := 2) C.1 C.2.1 d_MO_message_24 (by decide) ?_
        refine lv_goto (tgt := 29) C.1 C.2.1 d_MO_message_25 (by decide) ?_
        refine xput mw_inj C hP hS o_MO rfl c_MO (k := 0) (x := 2) (by decide) wg_877 rfl rfl rfl rfl d_MO_message_29 (fun H locs hP hS => ?_)
        refine lv_aload_n C.1 C.2.1 d_MO_message_32 rfl (lv_at hl 1 rfl) ?_
        refine xget C hP o_MO rfl c_MO (k := 0) (v := .int 2) (by decide) wg_877 (congrArg Value.int xu_s) d_MO_message_33 ?_
        refine lv_if_le (tgt := 41) C.1 C.2.1 d_MO_message_36 (by decide) (fun h => absurd h (by decide)) (fun _ => ?_)
        refine lv_iconst (v := 0) C.1 C.2.1 d_MO_message_39 (by decide) ?_
        exact xri C hlk hr hP hS d_MO_message_40 ⟨by rw [f_MO_message, if_pos h1, if_neg h2, if_neg h3], by rw [f_MO_message, if_pos h1, if_neg h2, if_neg h3]⟩
  · refine lv_iconst (v := 1) C.1 C.2.1 d_MO_message_11 (by decide) ?_
    refine lv_goto (tgt := 29) C.1 C.2.1 d_MO_message_12 (by decide) ?_
    refine xput mw_inj C hP hS o_MO rfl c_MO (k := 0) (x := 1) (by decide) wg_877 rfl rfl rfl rfl d_MO_message_29 (fun H locs hP hS => ?_)
    refine lv_aload_n C.1 C.2.1 d_MO_message_32 rfl (lv_at hl 1 rfl) ?_
    refine xget C hP o_MO rfl c_MO (k := 0) (v := .int 1) (by decide) wg_877 (congrArg Value.int xu_s) d_MO_message_33 ?_
    refine lv_if_le (tgt := 41) C.1 C.2.1 d_MO_message_36 (by decide) (fun h => absurd h (by decide)) (fun _ => ?_)
    refine lv_iconst (v := 0) C.1 C.2.1 d_MO_message_39 (by decide) ?_
    exact xri C hlk hr hP hS d_MO_message_40 ⟨by rw [f_MO_message, if_neg h1], by rw [f_MO_message, if_neg h1]⟩
