def f_MO_judged (st : XS) (a1 : Int32) (a2 : Int32) (a3 : Int32) : Int32 :=
  if a3 = (st 4 a1.toNatClampNeg 0) then (if (st 13 a1.toNatClampNeg 0) = (st 51 a2.toNatClampNeg 0) then (if ((st 0 1 0) - (st 14 a1.toNatClampNeg 0)) < 10000 then (if (bz (st 7 a1.toNatClampNeg 0)) = 0 then 3
        else if (f_MO_fits (st 52 a2.toNatClampNeg 0) (st 9 a1.toNatClampNeg 0) (st 10 a1.toNatClampNeg 0) (st 11 a1.toNatClampNeg 0)) = 0 then 4
        else if (st 12 a1.toNatClampNeg 0) = (st 53 a2.toNatClampNeg 0) then 0
        else 5)
      else 2)
    else 2)
  else 1
set_option maxRecDepth 100000 in
set_option maxHeartbeats 4000000 in
theorem k_MO_judged (l : Launch) (D : va_G) (cA : Nat → ClassId) (b : Nat) (st : XS) (a1 : Int32) (a2 : Int32) (a3 : Int32) (hd1 : vp_in a1 8) (ho2 : vp_in a2 100) (hs : ¬ (st 11 a1.toNatClampNeg 0) = 0) : xMi mw D cA b l y_MO_judged (Cond.code y_MO_judged b_MO_judged 4 (some .int)) { frames := 1, cells := 0, slots := 0, locals := 23 } st [.ref (b + 0), .int a1, .int a2, .int a3] (f_MO_judged st a1 a2 a3) st := by
  refine xMi_of rfl (by decide) (Nat.le_of_ble_eq_true rfl) ?_
  intro p e s m below meth c ls C hlk hr hml hl hP hS
  have hl : lv_has ls 4 [(0, .ref (b + 0)), (1, .int a1), (2, .int a2), (3, .int a3)] := hl
  refine lv_iload_n C.1 C.2.1 d_MO_judged_0 rfl (lv_at hl 3 rfl) ?_
  refine lv_aload_n C.1 C.2.1 d_MO_judged_1 rfl (lv_at hl 0 rfl) ?_
  refine xget C hP o_MO rfl c_MO (k := 7) (v := .ref (b + 4)) (by decide) wg_884 rfl d_MO_judged_2 ?_
  refine lv_iload_n C.1 C.2.1 d_MO_judged_5 rfl (lv_at hl 1 rfl) ?_
  refine xiald C hP om_4 rfl (v := (st 4 a1.toNatClampNeg 0)) hd1 rfl d_MO_judged_6 ?_
  refine lv_icmp_eq (tgt := 12) C.1 C.2.1 d_MO_judged_7 (by decide) (fun h1 => ?_) (fun h1 => ?_)
  · refine lv_aload_n C.1 C.2.1 d_MO_judged_12 rfl (lv_at hl 0 rfl) ?_
    refine xget C hP o_MO rfl c_MO (k := 16) (v := .ref (b + 13)) (by decide) wg_893 rfl d_MO_judged_13 ?_
    refine lv_iload_n C.1 C.2.1 d_MO_judged_16 rfl (lv_at hl 1 rfl) ?_
    refine xiald C hP om_13 rfl (v := (st 13 a1.toNatClampNeg 0)) hd1 rfl d_MO_judged_17 ?_
    refine lv_aload_n C.1 C.2.1 d_MO_judged_18 rfl (lv_at hl 0 rfl) ?_
    refine xget C hP o_MO rfl c_MO (k := 57) (v := .ref (b + 51)) (by decide) wg_934 rfl d_MO_judged_19 ?_
    refine lv_iload_n C.1 C.2.1 d_MO_judged_22 rfl (lv_at hl 2 rfl) ?_
    refine xiald C hP om_51 rfl (v := (st 51 a2.toNatClampNeg 0)) ho2 rfl d_MO_judged_23 ?_
    refine lv_icmp_ne (tgt := 44) C.1 C.2.1 d_MO_judged_24 (by decide) (fun h2 => ?_) (fun h2 => ?_)
    · refine lv_iconst (v := 2) C.1 C.2.1 d_MO_judged_44 (by decide) ?_
      exact xri C hlk hr hP hS d_MO_judged_45 ⟨by rw [f_MO_judged, if_pos h1, if_neg h2], rfl⟩
    · refine lv_aload_n C.1 C.2.1 d_MO_judged_27 rfl (lv_at hl 0 rfl) ?_
      refine xget C hP o_MO rfl c_MO (k := 1) (v := .int (st 0 1 0)) (by decide) wg_878 rfl d_MO_judged_28 ?_
      refine lv_aload_n C.1 C.2.1 d_MO_judged_31 rfl (lv_at hl 0 rfl) ?_
      refine xget C hP o_MO rfl c_MO (k := 17) (v := .ref (b + 14)) (by decide) wg_894 rfl d_MO_judged_32 ?_
      refine lv_iload_n C.1 C.2.1 d_MO_judged_35 rfl (lv_at hl 1 rfl) ?_
      refine xiald C hP om_14 rfl (v := (st 14 a1.toNatClampNeg 0)) hd1 rfl d_MO_judged_36 ?_
      refine lv_isub C.1 C.2.1 d_MO_judged_37 ?_
      refine lv_sipush (v := 10000) C.1 C.2.1 d_MO_judged_38 (by decide) ?_
      refine lv_icmp_lt (tgt := 46) C.1 C.2.1 d_MO_judged_41 (by decide) (fun h3 => ?_) (fun h3 => ?_)
      · refine lv_aload_n C.1 C.2.1 d_MO_judged_46 rfl (lv_at hl 0 rfl) ?_
        refine xget C hP o_MO rfl c_MO (k := 10) (v := .ref (b + 7)) (by decide) wg_887 rfl d_MO_judged_47 ?_
        refine lv_iload_n C.1 C.2.1 d_MO_judged_50 rfl (lv_at hl 1 rfl) ?_
        refine xzald C hP om_7 rfl (v := (bz (st 7 a1.toNatClampNeg 0))) hd1 rfl d_MO_judged_51 ?_
        refine lv_if_ne (tgt := 57) C.1 C.2.1 d_MO_judged_52 (by decide) (fun h4 => ?_) (fun h4 => ?_)
        · refine lv_aload_n C.1 C.2.1 d_MO_judged_57 rfl (lv_at hl 0 rfl) ?_
          refine xget C hP o_MO rfl c_MO (k := 58) (v := .ref (b + 52)) (by decide) wg_935 rfl d_MO_judged_58 ?_
          refine lv_iload_n C.1 C.2.1 d_MO_judged_61 rfl (lv_at hl 2 rfl) ?_
          refine xiald C hP om_52 rfl (v := (st 52 a2.toNatClampNeg 0)) ho2 rfl d_MO_judged_62 ?_
          refine lv_aload_n C.1 C.2.1 d_MO_judged_63 rfl (lv_at hl 0 rfl) ?_
          refine xget C hP o_MO rfl c_MO (k := 12) (v := .ref (b + 9)) (by decide) wg_889 rfl d_MO_judged_64 ?_
          refine lv_iload_n C.1 C.2.1 d_MO_judged_67 rfl (lv_at hl 1 rfl) ?_
          refine xiald C hP om_9 rfl (v := (st 9 a1.toNatClampNeg 0)) hd1 rfl d_MO_judged_68 ?_
          refine lv_aload_n C.1 C.2.1 d_MO_judged_69 rfl (lv_at hl 0 rfl) ?_
          refine xget C hP o_MO rfl c_MO (k := 13) (v := .ref (b + 10)) (by decide) wg_890 rfl d_MO_judged_70 ?_
          refine lv_iload_n C.1 C.2.1 d_MO_judged_73 rfl (lv_at hl 1 rfl) ?_
          refine xiald C hP om_10 rfl (v := (st 10 a1.toNatClampNeg 0)) hd1 rfl d_MO_judged_74 ?_
          refine lv_aload_n C.1 C.2.1 d_MO_judged_75 rfl (lv_at hl 0 rfl) ?_
          refine xget C hP o_MO rfl c_MO (k := 14) (v := .ref (b + 11)) (by decide) wg_891 rfl d_MO_judged_76 ?_
          refine lv_iload_n C.1 C.2.1 d_MO_judged_79 rfl (lv_at hl 1 rfl) ?_
          refine xiald C hP om_11 rfl (v := (st 11 a1.toNatClampNeg 0)) hd1 rfl d_MO_judged_80 ?_
          refine xcSi (rest := []) C hml hl.1 (k_MO_fits l D cA b st (st 52 a2.toNatClampNeg 0) (st 9 a1.toNatClampNeg 0) (st 10 a1.toNatClampNeg 0) (st 11 a1.toNatClampNeg 0) hs) q_MO_fits rfl rfl wg_1151 wg_1152 ⟨Nat.le_of_ble_eq_true rfl, Nat.le_of_ble_eq_true rfl⟩ hP hS rfl (Nat.le_of_ble_eq_true rfl) d_MO_judged_81 rfl (fun H locs hP hS => ?_)
          refine lv_if_ne (tgt := 89) C.1 C.2.1 d_MO_judged_84 (by decide) (fun h5 => ?_) (fun h5 => ?_)
          · refine lv_aload_n C.1 C.2.1 d_MO_judged_89 rfl (lv_at hl 0 rfl) ?_
            refine xget C hP o_MO rfl c_MO (k := 15) (v := .ref (b + 12)) (by decide) wg_892 rfl d_MO_judged_90 ?_
            refine lv_iload_n C.1 C.2.1 d_MO_judged_93 rfl (lv_at hl 1 rfl) ?_
            refine xiald C hP om_12 rfl (v := (st 12 a1.toNatClampNeg 0)) hd1 rfl d_MO_judged_94 ?_
            refine lv_aload_n C.1 C.2.1 d_MO_judged_95 rfl (lv_at hl 0 rfl) ?_
            refine xget C hP o_MO rfl c_MO (k := 59) (v := .ref (b + 53)) (by decide) wg_936 rfl d_MO_judged_96 ?_
            refine lv_iload_n C.1 C.2.1 d_MO_judged_99 rfl (lv_at hl 2 rfl) ?_
            refine xiald C hP om_53 rfl (v := (st 53 a2.toNatClampNeg 0)) ho2 rfl d_MO_judged_100 ?_
            refine lv_icmp_eq (tgt := 108) C.1 C.2.1 d_MO_judged_101 (by decide) (fun h6 => ?_) (fun h6 => ?_)
            · refine lv_iconst (v := 0) C.1 C.2.1 d_MO_judged_108 (by decide) ?_
              exact xri C hlk hr hP hS d_MO_judged_109 ⟨by rw [f_MO_judged, if_pos h1, if_pos h2, if_pos h3, if_neg h4, if_neg h5, if_pos h6], rfl⟩
            · refine lv_iconst (v := 5) C.1 C.2.1 d_MO_judged_104 (by decide) ?_
              refine lv_goto (tgt := 109) C.1 C.2.1 d_MO_judged_105 (by decide) ?_
              exact xri C hlk hr hP hS d_MO_judged_109 ⟨by rw [f_MO_judged, if_pos h1, if_pos h2, if_pos h3, if_neg h4, if_neg h5, if_neg h6], rfl⟩
          · refine lv_iconst (v := 4) C.1 C.2.1 d_MO_judged_87 (by decide) ?_
            exact xri C hlk hr hP hS d_MO_judged_88 ⟨by rw [f_MO_judged, if_pos h1, if_pos h2, if_pos h3, if_neg h4, if_pos h5], rfl⟩
        · refine lv_iconst (v := 3) C.1 C.2.1 d_MO_judged_55 (by decide) ?_
          exact xri C hlk hr hP hS d_MO_judged_56 ⟨by rw [f_MO_judged, if_pos h1, if_pos h2, if_pos h3, if_pos h4], rfl⟩
      · refine lv_iconst (v := 2) C.1 C.2.1 d_MO_judged_44 (by decide) ?_
        exact xri C hlk hr hP hS d_MO_judged_45 ⟨by rw [f_MO_judged, if_pos h1, if_pos h2, if_neg h3], rfl⟩
  · refine lv_iconst (v := 1) C.1 C.2.1 d_MO_judged_10 (by decide) ?_
    exact xri C hlk hr hP hS d_MO_judged_11 ⟨by rw [f_MO_judged, if_neg h1], rfl⟩
