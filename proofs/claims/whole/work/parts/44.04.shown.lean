def f_BN_shown (st : XS) (a1 : Int32) (a2 : Int32) : Nat × Int32 × XS :=
  if a1 < 0 then (3, 0, st)
  else if (st 0 6 0) ≤ a1 then (3, 0, st)
  else if a2 < 0 then (3, 0, st)
  else if a2 < 4 then (if a2 < 2 then (if ((st 0 8 0) - (st 15 7 a1.toNatClampNeg)) < 3000 then (if a2 = 0 then (0, (st 15 5 a1.toNatClampNeg), st)
        else (0, ((st 0 8 0) - (st 15 6 a1.toNatClampNeg)), st))
      else (4, 0, st))
    else if a2 = 2 then (0, (st 15 0 a1.toNatClampNeg), st)
    else (0, (st 15 1 a1.toNatClampNeg), st))
  else (3, 0, st)
set_option maxRecDepth 100000 in
set_option maxHeartbeats 4000000 in
theorem k_BN_shown (l : Launch) (hlt : l.stackTraces = false) (D : va_G) (cA : Nat → ClassId) (b : Nat) (st : XS) (a1 : Int32) (a2 : Int32) (hy : (st 0 6 0).toInt ≤ (16 : Nat)) : xMt cw D cA b l y_BN_shown (Cond.code y_BN_shown b_BN_shown 4 (some .int)) { frames := 6, cells := 1, slots := 6, locals := 89 } st [.ref (b + 0), .int a1, .int a2] (f_BN_shown st a1 a2).1 (f_BN_shown st a1 a2).2.1 (f_BN_shown st a1 a2).2.2 := by
  refine xMt_of rfl (by decide) (Nat.le_of_ble_eq_true rfl) ?_
  intro p e s m below meth c ls C hlk hr hml hl hP hS hT hno
  have hl : lv_has ls 4 [(0, .ref (b + 0)), (1, .int a1), (2, .int a2)] := hl
  refine lv_iload_n C.1 C.2.1 d_BN_shown_0 rfl (lv_at hl 1 rfl) ?_
  refine lv_if_lt (tgt := 21) C.1 C.2.1 d_BN_shown_1 (by decide) (fun h1 => ?_) (fun h1 => ?_)
  · rw [show (f_BN_shown st a1 a2) = (3, 0, st) from by rw [f_BN_shown, if_pos h1]]
    exact xthrow C hlt (names := nmR) (ex := 3) (by decide) (by decide) th_3 wg_778 wg_19 wg_779 hT hP hS (hl.1.trans hml.symm) d_BN_shown_21 d_BN_shown_24 d_BN_shown_25 d_BN_shown_28 hno (by decide) (Nat.le_of_ble_eq_true rfl) (by decide) (by decide) hlk rfl (by decide)
  · refine lv_iload_n C.1 C.2.1 d_BN_shown_4 rfl (lv_at hl 1 rfl) ?_
    refine lv_aload_n C.1 C.2.1 d_BN_shown_5 rfl (lv_at hl 0 rfl) ?_
    refine xget C hP o_BN rfl c_BN (k := 6) (v := .int (st 0 6 0)) (by decide) wg_384 rfl d_BN_shown_6 ?_
    refine lv_icmp_ge (tgt := 21) C.1 C.2.1 d_BN_shown_9 (by decide) (fun h2 => ?_) (fun h2 => ?_)
    · rw [show (f_BN_shown st a1 a2) = (3, 0, st) from by rw [f_BN_shown, if_neg h1, if_pos h2]]
      exact xthrow C hlt (names := nmR) (ex := 3) (by decide) (by decide) th_3 wg_778 wg_19 wg_779 hT hP hS (hl.1.trans hml.symm) d_BN_shown_21 d_BN_shown_24 d_BN_shown_25 d_BN_shown_28 hno (by decide) (Nat.le_of_ble_eq_true rfl) (by decide) (by decide) hlk rfl (by decide)
    · refine lv_iload_n C.1 C.2.1 d_BN_shown_12 rfl (lv_at hl 2 rfl) ?_
      refine lv_if_lt (tgt := 21) C.1 C.2.1 d_BN_shown_13 (by decide) (fun h3 => ?_) (fun h3 => ?_)
      · rw [show (f_BN_shown st a1 a2) = (3, 0, st) from by rw [f_BN_shown, if_neg h1, if_neg h2, if_pos h3]]
        exact xthrow C hlt (names := nmR) (ex := 3) (by decide) (by decide) th_3 wg_778 wg_19 wg_779 hT hP hS (hl.1.trans hml.symm) d_BN_shown_21 d_BN_shown_24 d_BN_shown_25 d_BN_shown_28 hno (by decide) (Nat.le_of_ble_eq_true rfl) (by decide) (by decide) hlk rfl (by decide)
      · refine lv_iload_n C.1 C.2.1 d_BN_shown_16 rfl (lv_at hl 2 rfl) ?_
        refine lv_iconst (v := 4) C.1 C.2.1 d_BN_shown_17 (by decide) ?_
        refine lv_icmp_lt (tgt := 29) C.1 C.2.1 d_BN_shown_18 (by decide) (fun h4 => ?_) (fun h4 => ?_)
        · refine lv_aload_n C.1 C.2.1 d_BN_shown_29 rfl (lv_at hl 0 rfl) ?_
          refine xget C hP o_BN rfl c_BN (k := 2) (v := .ref (b + 3)) (by decide) wg_380 rfl d_BN_shown_30 ?_
          refine lv_iload_n C.1 C.2.1 d_BN_shown_33 rfl (lv_at hl 1 rfl) ?_
          refine xaald C hP o_ya rfl (E := R_DI) rfl (v := b + (233 + a1.toNatClampNeg)) (sh_in h1 h2 hy) rfl d_BN_shown_34 ?_
          refine lv_astore_n C.1 C.2.1 d_BN_shown_35 rfl hl (by decide) rfl (fun ls hl => ?_)
          have hl : lv_has ls 4 [(3, .ref (b + (233 + a1.toNatClampNeg))), (0, .ref (b + 0)), (1, .int a1), (2, .int a2)] := hl
          refine lv_iload_n C.1 C.2.1 d_BN_shown_36 rfl (lv_at hl 3 rfl) ?_
          refine lv_iconst (v := 2) C.1 C.2.1 d_BN_shown_37 (by decide) ?_
          refine lv_icmp_lt (tgt := 58) C.1 C.2.1 d_BN_shown_38 (by decide) (fun h5 => ?_) (fun h5 => ?_)
          · refine lv_aload_n C.1 C.2.1 d_BN_shown_58 rfl (lv_at hl 1 rfl) ?_
            refine xget C hP o_BN rfl c_BN (k := 8) (v := .int (st 0 8 0)) (by decide) wg_386 rfl d_BN_shown_59 ?_
            refine lv_aload_n C.1 C.2.1 d_BN_shown_62 rfl (lv_at hl 0 rfl) ?_
            refine xgetN C hP (o_DI (xin_lt (sh_in h1 h2 hy))) rfl c_DI (k := 7) (v := .int (st 15 7 a1.toNatClampNeg)) (by decide) wn_335 rfl d_BN_shown_63 ?_
            refine lv_isub C.1 C.2.1 d_BN_shown_66 ?_
            refine lv_sipush (v := 3000) C.1 C.2.1 d_BN_shown_67 (by decide) ?_
            refine lv_icmp_lt (tgt := 81) C.1 C.2.1 d_BN_shown_70 (by decide) (fun h6 => ?_) (fun h6 => ?_)
            · refine lv_iload_n C.1 C.2.1 d_BN_shown_81 rfl (lv_at hl 3 rfl) ?_
              refine lv_if_ne (tgt := 92) C.1 C.2.1 d_BN_shown_82 (by decide) (fun h7 => ?_) (fun h7 => ?_)
              · refine lv_aload_n C.1 C.2.1 d_BN_shown_92 rfl (lv_at hl 1 rfl) ?_
                refine xget C hP o_BN rfl c_BN (k := 8) (v := .int (st 0 8 0)) (by decide) wg_386 rfl d_BN_shown_93 ?_
                refine lv_aload_n C.1 C.2.1 d_BN_shown_96 rfl (lv_at hl 0 rfl) ?_
                refine xgetN C hP (o_DI (xin_lt (sh_in h1 h2 hy))) rfl c_DI (k := 6) (v := .int (st 15 6 a1.toNatClampNeg)) (by decide) wn_333 rfl d_BN_shown_97 ?_
                refine lv_isub C.1 C.2.1 d_BN_shown_100 ?_
                rw [show (f_BN_shown st a1 a2) = (0, ((st 0 8 0) - (st 15 6 a1.toNatClampNeg)), st) from by rw [f_BN_shown, if_neg h1, if_neg h2, if_neg h3, if_pos h4, if_pos h5, if_pos h6, if_neg h7]]
                exact xrtp C hlk hr hP hS d_BN_shown_101
              · refine lv_aload_n C.1 C.2.1 d_BN_shown_85 rfl (lv_at hl 0 rfl) ?_
                refine xgetN C hP (o_DI (xin_lt (sh_in h1 h2 hy))) rfl c_DI (k := 5) (v := .int (st 15 5 a1.toNatClampNeg)) (by decide) wn_331 rfl d_BN_shown_86 ?_
                refine lv_goto (tgt := 101) C.1 C.2.1 d_BN_shown_89 (by decide) ?_
                rw [show (f_BN_shown st a1 a2) = (0, (st 15 5 a1.toNatClampNeg), st) from by rw [f_BN_shown, if_neg h1, if_neg h2, if_neg h3, if_pos h4, if_pos h5, if_pos h6, if_pos h7]]
                exact xrtp C hlk hr hP hS d_BN_shown_101
            · rw [show (f_BN_shown st a1 a2) = (4, 0, st) from by rw [f_BN_shown, if_neg h1, if_neg h2, if_neg h3, if_pos h4, if_pos h5, if_neg h6]]
              exact xthrow C hlt (names := nmR) (ex := 4) (by decide) (by decide) th_4 wg_793 wg_20 wg_794 hT hP hS (hl.1.trans hml.symm) d_BN_shown_73 d_BN_shown_76 d_BN_shown_77 d_BN_shown_80 hno (by decide) (Nat.le_of_ble_eq_true rfl) (by decide) (by decide) hlk rfl (by decide)
          · refine lv_iload_n C.1 C.2.1 d_BN_shown_41 rfl (lv_at hl 3 rfl) ?_
            refine lv_iconst (v := 2) C.1 C.2.1 d_BN_shown_42 (by decide) ?_
            refine lv_icmp_ne (tgt := 53) C.1 C.2.1 d_BN_shown_43 (by decide) (fun h8 => ?_) (fun h8 => ?_)
            · refine lv_aload_n C.1 C.2.1 d_BN_shown_53 rfl (lv_at hl 0 rfl) ?_
              refine xgetN C hP (o_DI (xin_lt (sh_in h1 h2 hy))) rfl c_DI (k := 1) (v := .int (st 15 1 a1.toNatClampNeg)) (by decide) wn_326 rfl d_BN_shown_54 ?_
              rw [show (f_BN_shown st a1 a2) = (0, (st 15 1 a1.toNatClampNeg), st) from by rw [f_BN_shown, if_neg h1, if_neg h2, if_neg h3, if_pos h4, if_neg h5, if_neg h8]]
              exact xrtp C hlk hr hP hS d_BN_shown_57
            · refine lv_aload_n C.1 C.2.1 d_BN_shown_46 rfl (lv_at hl 0 rfl) ?_
              refine xgetN C hP (o_DI (xin_lt (sh_in h1 h2 hy))) rfl c_DI (k := 0) (v := .int (st 15 0 a1.toNatClampNeg)) (by decide) wn_324 rfl d_BN_shown_47 ?_
              refine lv_goto (tgt := 57) C.1 C.2.1 d_BN_shown_50 (by decide) ?_
              rw [show (f_BN_shown st a1 a2) = (0, (st 15 0 a1.toNatClampNeg), st) from by rw [f_BN_shown, if_neg h1, if_neg h2, if_neg h3, if_pos h4, if_neg h5, if_pos h8]]
              exact xrtp C hlk hr hP hS d_BN_shown_57
        · rw [show (f_BN_shown st a1 a2) = (3, 0, st) from by rw [f_BN_shown, if_neg h1, if_neg h2, if_neg h3, if_neg h4]]
          exact xthrow C hlt (names := nmR) (ex := 3) (by decide) (by decide) th_3 wg_778 wg_19 wg_779 hT hP hS (hl.1.trans hml.symm) d_BN_shown_21 d_BN_shown_24 d_BN_shown_25 d_BN_shown_28 hno (by decide) (Nat.le_of_ble_eq_true rfl) (by decide) (by decide) hlk rfl (by decide)
