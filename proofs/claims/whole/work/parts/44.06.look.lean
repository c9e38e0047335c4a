def f_BN_look (st : XS) (a1 : Int32) (a2 : Int32) : Nat × Int32 × XS :=
  if (f_BN_isDevice a1) = 0 then (3, 0, st)
  else if 0 ≤ a2 then (if 10 ≤ a2 then (if 4 ≤ ((a2 - 10) / 8) then (3, 0, st)
      else if ((a2 - 10) - (a2 - 10) / 8 * 8) < 5 then (if (f_DE_hasChannel st a1.toNatClampNeg ((a2 - 10) / 8)) = 0 then (0, (-1), st)
        else (0, (f_BN_channelFact st (20 * a1.toNatClampNeg + 4 * (((a2 - 10) / 8)).toNatClampNeg) ((a2 - 10) - (a2 - 10) / 8 * 8)), st))
      else (3, 0, st))
    else (0, (f_BN_deviceFact st a1.toNatClampNeg a2), st))
  else (3, 0, st)
set_option maxRecDepth 100000 in
set_option maxHeartbeats 4000000 in
theorem k_BN_look (l : Launch) (hlt : l.stackTraces = false) (D : va_G) (cA : Nat → ClassId) (b : Nat) (st : XS) (a1 : Int32) (a2 : Int32) (ho : dok st) : xMt cw D cA b l y_BN_look (Cond.code y_BN_look b_BN_look 5 (some .int)) { frames := 6, cells := 1, slots := 6, locals := 89 } st [.ref (b + 0), .int a1, .int a2] (f_BN_look st a1 a2).1 (f_BN_look st a1 a2).2.1 (f_BN_look st a1 a2).2.2 := by
  refine xMt_of rfl (by decide) (Nat.le_of_ble_eq_true rfl) ?_
  intro p e s m below meth c ls C hlk hr hml hl hP hS hT hno
  have hl : lv_has ls 5 [(0, .ref (b + 0)), (1, .int a1), (2, .int a2)] := hl
  refine lv_iload_n C.1 C.2.1 d_BN_look_0 rfl (lv_at hl 1 rfl) ?_
  refine xcSi (rest := []) C hml hl.1 (k_BN_isDevice l D cA b st a1) q_BN_isDevice rfl rfl wg_410 wg_411 ⟨Nat.le_of_ble_eq_true rfl, Nat.le_of_ble_eq_true rfl⟩ hP hS rfl (Nat.le_of_ble_eq_true rfl) d_BN_look_1 rfl (fun H locs hP hS => ?_)
  refine lv_if_eq (tgt := 11) C.1 C.2.1 d_BN_look_4 (by decide) (fun h1 => ?_) (fun h1 => ?_)
  · rw [show (f_BN_look st a1 a2) = (3, 0, st) from by rw [f_BN_look, if_pos h1]]
    exact xthrow C hlt (names := nmR) (ex := 3) (by decide) (by decide) th_3 wg_778 wg_19 wg_779 hT hP hS (hl.1.trans hml.symm) d_BN_look_11 d_BN_look_14 d_BN_look_15 d_BN_look_18 hno (by decide) (Nat.le_of_ble_eq_true rfl) (by decide) (by decide) hlk rfl (by decide)
  · refine lv_iload_n C.1 C.2.1 d_BN_look_7 rfl (lv_at hl 2 rfl) ?_
    refine lv_if_ge (tgt := 19) C.1 C.2.1 d_BN_look_8 (by decide) (fun h2 => ?_) (fun h2 => ?_)
    · refine lv_iload_n C.1 C.2.1 d_BN_look_19 rfl (lv_at hl 2 rfl) ?_
      refine lv_bipush (v := 10) C.1 C.2.1 d_BN_look_20 (by decide) ?_
      refine lv_icmp_ge (tgt := 37) C.1 C.2.1 d_BN_look_22 (by decide) (fun h3 => ?_) (fun h3 => ?_)
      · refine lv_iload_n C.1 C.2.1 d_BN_look_37 rfl (lv_at hl 2 rfl) ?_
        refine lv_bipush (v := 10) C.1 C.2.1 d_BN_look_38 (by decide) ?_
        refine lv_isub C.1 C.2.1 d_BN_look_40 ?_
        refine lv_bipush (v := 8) C.1 C.2.1 d_BN_look_41 (by decide) ?_
        refine lv_idiv C.1 C.2.1 d_BN_look_43 (by decide) ?_
        refine lv_istore_n C.1 C.2.1 d_BN_look_44 rfl hl (by decide) rfl (fun ls hl => ?_)
        have hl : lv_has ls 5 [(3, .int ((a2 - 10) / 8)), (0, .ref (b + 0)), (1, .int a1), (2, .int a2)] := hl
        refine lv_iload_n C.1 C.2.1 d_BN_look_45 rfl (lv_at hl 3 rfl) ?_
        refine lv_bipush (v := 10) C.1 C.2.1 d_BN_look_46 (by decide) ?_
        refine lv_isub C.1 C.2.1 d_BN_look_48 ?_
        refine lv_bipush (v := 8) C.1 C.2.1 d_BN_look_49 (by decide) ?_
        refine lv_irem C.1 C.2.1 d_BN_look_51 (by decide) ?_
        refine lv_istore C.1 C.2.1 d_BN_look_52 hl (by decide) rfl (fun ls hl => ?_)
        have hl : lv_has ls 5 [(4, .int ((a2 - 10) - (a2 - 10) / 8 * 8)), (3, .int ((a2 - 10) / 8)), (0, .ref (b + 0)), (1, .int a1), (2, .int a2)] := hl
        refine lv_iload_n C.1 C.2.1 d_BN_look_54 rfl (lv_at hl 1 rfl) ?_
        refine lv_iconst (v := 4) C.1 C.2.1 d_BN_look_55 (by decide) ?_
        refine lv_icmp_ge (tgt := 65) C.1 C.2.1 d_BN_look_56 (by decide) (fun h4 => ?_) (fun h4 => ?_)
        · rw [show (f_BN_look st a1 a2) = (3, 0, st) from by rw [f_BN_look, if_neg h1, if_pos h2, if_pos h3, if_pos h4]]
          exact xthrow C hlt (names := nmR) (ex := 3) (by decide) (by decide) th_3 wg_778 wg_19 wg_779 hT hP hS (hl.1.trans hml.symm) d_BN_look_65 d_BN_look_68 d_BN_look_69 d_BN_look_72 hno (by decide) (Nat.le_of_ble_eq_true rfl) (by decide) (by decide) hlk rfl (by decide)
        · refine lv_iload C.1 C.2.1 d_BN_look_59 (lv_at hl 0 rfl) ?_
          refine lv_iconst (v := 5) C.1 C.2.1 d_BN_look_61 (by decide) ?_
          refine lv_icmp_lt (tgt := 73) C.1 C.2.1 d_BN_look_62 (by decide) (fun h5 => ?_) (fun h5 => ?_)
          · refine lv_aload_n C.1 C.2.1 d_BN_look_73 rfl (lv_at hl 2 rfl) ?_
            refine xget C hP o_BN rfl c_BN (k := 0) (v := .ref (b + 1)) (by decide) wg_378 rfl d_BN_look_74 ?_
            refine lv_iload_n C.1 C.2.1 d_BN_look_77 rfl (lv_at hl 3 rfl) ?_
            refine xaald C hP o_da rfl (E := R_DE) rfl (v := b + (73 + 20 * a1.toNatClampNeg)) (vd_isDevice h1) rfl d_BN_look_78 ?_
            refine lv_iload_n C.1 C.2.1 d_BN_look_79 rfl (lv_at hl 1 rfl) ?_
            refine xcVNi (rest := []) C hml hl.1 (k_DE_hasChannel l D cA b st a1.toNatClampNeg (xin_lt (vd_isDevice h1)) ((a2 - 10) / 8)) q_DE_hasChannel rfl rfl wn_428 wg_430 ws_2 ⟨Nat.le_of_ble_eq_true rfl, Nat.le_of_ble_eq_true rfl⟩ hP hS (o_DE (xin_lt (vd_isDevice h1))) rfl c_DE rfl (Nat.le_of_ble_eq_true rfl) d_BN_look_80 rfl (fun H locs hP hS => ?_)
            refine lv_if_ne (tgt := 88) C.1 C.2.1 d_BN_look_83 (by decide) (fun h6 => ?_) (fun h6 => ?_)
            · refine lv_aload_n C.1 C.2.1 d_BN_look_88 rfl (lv_at hl 2 rfl) ?_
              refine lv_aload_n C.1 C.2.1 d_BN_look_89 rfl (lv_at hl 2 rfl) ?_
              refine xget C hP o_BN rfl c_BN (k := 0) (v := .ref (b + 1)) (by decide) wg_378 rfl d_BN_look_90 ?_
              refine lv_iload_n C.1 C.2.1 d_BN_look_93 rfl (lv_at hl 3 rfl) ?_
              refine xaald C hP o_da rfl (E := R_DE) rfl (v := b + (73 + 20 * a1.toNatClampNeg)) (vd_isDevice h1) rfl d_BN_look_94 ?_
              refine xgetN C hP (o_DE (xin_lt (vd_isDevice h1))) rfl c_DE (k := 0) (v := .ref (b + (74 + 20 * a1.toNatClampNeg))) (by decide) wn_281 rfl d_BN_look_95 ?_
              refine lv_iload_n C.1 C.2.1 d_BN_look_98 rfl (lv_at hl 1 rfl) ?_
              refine xaald C hP (o_ca (xin_lt (vd_isDevice h1))) rfl (E := R_CH) rfl (v := b + (77 + (20 * a1.toNatClampNeg + 4 * (((a2 - 10) / 8)).toNatClampNeg))) (vd_hasChannel h6 (ho _ (xin_lt (vd_isDevice h1)))) rfl d_BN_look_99 ?_
              refine lv_iload C.1 C.2.1 d_BN_look_100 (lv_at hl 0 rfl) ?_
              refine xcVi (rest := []) C hml hl.1 (k_BN_channelFact l D cA b st (20 * a1.toNatClampNeg + 4 * (((a2 - 10) / 8)).toNatClampNeg) (cix_of (xin_lt (vd_isDevice h1)) (xin_lt (vd_hasChannel h6 (ho _ (xin_lt (vd_isDevice h1)))))) ((a2 - 10) - (a2 - 10) / 8 * 8)) q_BN_channelFact rfl rfl wg_838 wg_840 ws_47 ⟨Nat.le_of_ble_eq_true rfl, Nat.le_of_ble_eq_true rfl⟩ hP hS o_BN rfl c_BN rfl (Nat.le_of_ble_eq_true rfl) d_BN_look_102 rfl (fun H locs hP hS => ?_)
              rw [show (f_BN_look st a1 a2) = (0, (f_BN_channelFact st (20 * a1.toNatClampNeg + 4 * (((a2 - 10) / 8)).toNatClampNeg) ((a2 - 10) - (a2 - 10) / 8 * 8)), st) from by rw [f_BN_look, if_neg h1, if_pos h2, if_pos h3, if_neg h4, if_pos h5, if_neg h6]]
              exact xrtp C hlk hr hP hS d_BN_look_105
            · refine lv_iconst (v := (-1)) C.1 C.2.1 d_BN_look_86 (by decide) ?_
              rw [show (f_BN_look st a1 a2) = (0, (-1), st) from by rw [f_BN_look, if_neg h1, if_pos h2, if_pos h3, if_neg h4, if_pos h5, if_pos h6]]
              exact xrtp C hlk hr hP hS d_BN_look_87
          · rw [show (f_BN_look st a1 a2) = (3, 0, st) from by rw [f_BN_look, if_neg h1, if_pos h2, if_pos h3, if_neg h4, if_neg h5]]
            exact xthrow C hlt (names := nmR) (ex := 3) (by decide) (by decide) th_3 wg_778 wg_19 wg_779 hT hP hS (hl.1.trans hml.symm) d_BN_look_65 d_BN_look_68 d_BN_look_69 d_BN_look_72 hno (by decide) (Nat.le_of_ble_eq_true rfl) (by decide) (by decide) hlk rfl (by decide)
      · refine lv_aload_n C.1 C.2.1 d_BN_look_25 rfl (lv_at hl 0 rfl) ?_
        refine lv_aload_n C.1 C.2.1 d_BN_look_26 rfl (lv_at hl 0 rfl) ?_
        refine xget C hP o_BN rfl c_BN (k := 0) (v := .ref (b + 1)) (by decide) wg_378 rfl d_BN_look_27 ?_
        refine lv_iload_n C.1 C.2.1 d_BN_look_30 rfl (lv_at hl 1 rfl) ?_
        refine xaald C hP o_da rfl (E := R_DE) rfl (v := b + (73 + 20 * a1.toNatClampNeg)) (vd_isDevice h1) rfl d_BN_look_31 ?_
        refine lv_iload_n C.1 C.2.1 d_BN_look_32 rfl (lv_at hl 2 rfl) ?_
        refine xcVi (rest := []) C hml hl.1 (k_BN_deviceFact l D cA b st a1.toNatClampNeg (xin_lt (vd_isDevice h1)) a2 ho) q_BN_deviceFact rfl rfl wg_826 wg_828 ws_44 ⟨Nat.le_of_ble_eq_true rfl, Nat.le_of_ble_eq_true rfl⟩ hP hS o_BN rfl c_BN rfl (Nat.le_of_ble_eq_true rfl) d_BN_look_33 rfl (fun H locs hP hS => ?_)
        rw [show (f_BN_look st a1 a2) = (0, (f_BN_deviceFact st a1.toNatClampNeg a2), st) from by rw [f_BN_look, if_neg h1, if_pos h2, if_neg h3]]
        exact xrtp C hlk hr hP hS d_BN_look_36
    · rw [show (f_BN_look st a1 a2) = (3, 0, st) from by rw [f_BN_look, if_neg h1, if_neg h2]]
      exact xthrow C hlt (names := nmR) (ex := 3) (by decide) (by decide) th_3 wg_778 wg_19 wg_779 hT hP hS (hl.1.trans hml.symm) d_BN_look_11 d_BN_look_14 d_BN_look_15 d_BN_look_18 hno (by decide) (Nat.le_of_ble_eq_true rfl) (by decide) (by decide) hlk rfl (by decide)
