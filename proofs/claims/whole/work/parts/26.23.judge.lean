def f_BN_judge (st : XS) (o : Nat) (d : Nat) : Int32 :=
  if (st 7 4 65) = (st 8 4 d) then (if (f_SE_holderAt st d (st 0 8 0)) = (st 16 0 o) then (if (bz (st 10 3 d)) = 0 then 3
      else if (f_RA_fits st (200 + d) (st 16 1 o)) = 0 then 4
      else if (st 10 2 d) = (st 16 2 o) then 0
      else 5)
    else 2)
  else 1
set_option maxRecDepth 100000 in
set_option maxHeartbeats 4000000 in
theorem k_BN_judge (l : Launch) (D : va_G) (cA : Nat → ClassId) (b : Nat) (st : XS) (jo o : Nat) (ho : xo cw jo 16 o) (d : Nat) (hd : d < 8) : xMi cw D cA b l y_BN_judge (Cond.code y_BN_judge b_BN_judge 3 (some .int)) { frames := 1, cells := 0, slots := 0, locals := 21 } st [.ref (b + 0), .ref (b + jo), .ref (b + (73 + 20 * d))] (f_BN_judge st o d) st := by
  refine xMi_of rfl (by decide) (Nat.le_of_ble_eq_true rfl) ?_
  intro p e s m below meth c ls C hlk hr hml hl hP hS
  have hl : lv_has ls 3 [(0, .ref (b + 0)), (1, .ref (b + jo)), (2, .ref (b + (73 + 20 * d)))] := hl
  refine lv_aload_n C.1 C.2.1 d_BN_judge_0 rfl (lv_at hl 0 rfl) ?_
  refine xget C hP o_BN rfl c_BN (k := 5) (v := .ref (b + 72)) (by decide) wg_383 rfl d_BN_judge_1 ?_
  refine xgetN C hP o_IH rfl c_ME (k := 4) (v := .int (st 7 4 65)) (by decide) wn_66 rfl d_BN_judge_4 ?_
  refine lv_aload_n C.1 C.2.1 d_BN_judge_7 rfl (lv_at hl 2 rfl) ?_
  refine xgetN C hP (o_DE hd) rfl c_DE (k := 4) (v := .int (st 8 4 d)) (by decide) wn_289 rfl d_BN_judge_8 ?_
  refine lv_icmp_eq (tgt := 16) C.1 C.2.1 d_BN_judge_11 (by decide) (fun h1 => ?_) (fun h1 => ?_)
  · refine lv_aload_n C.1 C.2.1 d_BN_judge_16 rfl (lv_at hl 2 rfl) ?_
    refine xgetN C hP (o_DE hd) rfl c_DE (k := 1) (v := .ref (b + (75 + 20 * d))) (by decide) wn_283 rfl d_BN_judge_17 ?_
    refine lv_aload_n C.1 C.2.1 d_BN_judge_20 rfl (lv_at hl 0 rfl) ?_
    refine xget C hP o_BN rfl c_BN (k := 8) (v := .int (st 0 8 0)) (by decide) wg_386 rfl d_BN_judge_21 ?_
    refine xcVNi (rest := []) C hml hl.1 (k_SE_holderAt l D cA b st d hd (st 0 8 0)) q_SE_holderAt rfl rfl wn_550 wg_552 ws_22 ⟨Nat.le_of_ble_eq_true rfl, Nat.le_of_ble_eq_true rfl⟩ hP hS (o_SE hd) rfl c_SE rfl (Nat.le_of_ble_eq_true rfl) d_BN_judge_24 rfl (fun H locs hP hS => ?_)
    refine lv_aload_n C.1 C.2.1 d_BN_judge_27 rfl (lv_at hl 1 rfl) ?_
    refine xgetN C hP ho rfl c_OR (k := 0) (v := .int (st 16 0 o)) (by decide) wn_359 rfl d_BN_judge_28 ?_
    refine lv_icmp_eq (tgt := 36) C.1 C.2.1 d_BN_judge_31 (by decide) (fun h2 => ?_) (fun h2 => ?_)
    · refine lv_aload_n C.1 C.2.1 d_BN_judge_36 rfl (lv_at hl 2 rfl) ?_
      refine xgetN C hP (o_DE hd) rfl c_DE (k := 1) (v := .ref (b + (75 + 20 * d))) (by decide) wn_283 rfl d_BN_judge_37 ?_
      refine xgetN C hP (o_SE hd) rfl c_SE (k := 3) (v := .int (bz (st 10 3 d))) (by decide) wn_152 rfl d_BN_judge_40 ?_
      refine lv_if_ne (tgt := 48) C.1 C.2.1 d_BN_judge_43 (by decide) (fun h3 => ?_) (fun h3 => ?_)
      · refine lv_aload_n C.1 C.2.1 d_BN_judge_48 rfl (lv_at hl 2 rfl) ?_
        refine xgetN C hP (o_DE hd) rfl c_DE (k := 1) (v := .ref (b + (75 + 20 * d))) (by decide) wn_283 rfl d_BN_judge_49 ?_
        refine xgetN C hP (o_SE hd) rfl c_SE (k := 0) (v := .ref (b + (76 + 20 * d))) (by decide) wn_145 rfl d_BN_judge_52 ?_
        refine lv_aload_n C.1 C.2.1 d_BN_judge_55 rfl (lv_at hl 1 rfl) ?_
        refine xgetN C hP ho rfl c_OR (k := 1) (v := .int (st 16 1 o)) (by decide) wn_361 rfl d_BN_judge_56 ?_
        refine xcVNi (rest := []) C hml hl.1 (k_RA_fits l D cA b st (76 + 20 * d) (200 + d) (o_RS hd) (st 16 1 o)) q_RA_fits rfl rfl wn_487 wg_489 ws_8 ⟨Nat.le_of_ble_eq_true rfl, Nat.le_of_ble_eq_true rfl⟩ hP hS (o_RS hd) rfl c_RA rfl (Nat.le_of_ble_eq_true rfl) d_BN_judge_59 rfl (fun H locs hP hS => ?_)
        refine lv_if_ne (tgt := 67) C.1 C.2.1 d_BN_judge_62 (by decide) (fun h4 => ?_) (fun h4 => ?_)
        · refine lv_aload_n C.1 C.2.1 d_BN_judge_67 rfl (lv_at hl 2 rfl) ?_
          refine xgetN C hP (o_DE hd) rfl c_DE (k := 1) (v := .ref (b + (75 + 20 * d))) (by decide) wn_283 rfl d_BN_judge_68 ?_
          refine xgetN C hP (o_SE hd) rfl c_SE (k := 2) (v := .int (st 10 2 d)) (by decide) wn_150 rfl d_BN_judge_71 ?_
          refine lv_aload_n C.1 C.2.1 d_BN_judge_74 rfl (lv_at hl 1 rfl) ?_
          refine xgetN C hP ho rfl c_OR (k := 2) (v := .int (st 16 2 o)) (by decide) wn_363 rfl d_BN_judge_75 ?_
          refine lv_icmp_ne (tgt := 85) C.1 C.2.1 d_BN_judge_78 (by decide) (fun h5 => ?_) (fun h5 => ?_)
          · refine lv_iconst (v := 5) C.1 C.2.1 d_BN_judge_85 (by decide) ?_
            exact xri C hlk hr hP hS d_BN_judge_86 ⟨by rw [f_BN_judge, if_pos h1, if_pos h2, if_neg h3, if_neg h4, if_neg h5], rfl⟩
          · refine lv_iconst (v := 0) C.1 C.2.1 d_BN_judge_81 (by decide) ?_
            refine lv_goto (tgt := 86) C.1 C.2.1 d_BN_judge_82 (by decide) ?_
            exact xri C hlk hr hP hS d_BN_judge_86 ⟨by rw [f_BN_judge, if_pos h1, if_pos h2, if_neg h3, if_neg h4, if_pos h5], rfl⟩
        · refine lv_iconst (v := 4) C.1 C.2.1 d_BN_judge_65 (by decide) ?_
          exact xri C hlk hr hP hS d_BN_judge_66 ⟨by rw [f_BN_judge, if_pos h1, if_pos h2, if_neg h3, if_pos h4], rfl⟩
      · refine lv_iconst (v := 3) C.1 C.2.1 d_BN_judge_46 (by decide) ?_
        exact xri C hlk hr hP hS d_BN_judge_47 ⟨by rw [f_BN_judge, if_pos h1, if_pos h2, if_pos h3], rfl⟩
    · refine lv_iconst (v := 2) C.1 C.2.1 d_BN_judge_34 (by decide) ?_
      exact xri C hlk hr hP hS d_BN_judge_35 ⟨by rw [f_BN_judge, if_pos h1, if_neg h2], rfl⟩
  · refine lv_iconst (v := 1) C.1 C.2.1 d_BN_judge_14 (by decide) ?_
    exact xri C hlk hr hP hS d_BN_judge_15 ⟨by rw [f_BN_judge, if_neg h1], rfl⟩
