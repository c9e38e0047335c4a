def f_MO_lookChannel (st : XS) (a1 : Int32) (a2 : Int32) : Int32 :=
  if ((a2 - 10) / 8) < (st 5 a1.toNatClampNeg 0) then (if ((a2 - 10) - (a2 - 10) / 8 * 8) = 0 then (if (st 20 (((4 * a1) + ((a2 - 10) / 8))).toNatClampNeg 0) = 0 then 0
      else if (bz (st 30 (((4 * a1) + ((a2 - 10) / 8))).toNatClampNeg 0)) = 0 then 1
      else if (bz (st 31 (((4 * a1) + ((a2 - 10) / 8))).toNatClampNeg 0)) = 0 then 2
      else 3)
    else if ((a2 - 10) - (a2 - 10) / 8 * 8) = 1 then (f_MO_levelOf st ((4 * a1) + ((a2 - 10) / 8)))
    else if ((a2 - 10) - (a2 - 10) / 8 * 8) = 2 then (if (bz (st 23 (((4 * a1) + ((a2 - 10) / 8))).toNatClampNeg 0)) = 0 then 0
      else 1)
    else if ((a2 - 10) - (a2 - 10) / 8 * 8) = 3 then (if (bz (st 23 (((4 * a1) + ((a2 - 10) / 8))).toNatClampNeg 0)) = 0 then (-1)
      else (st 25 (((4 * a1) + ((a2 - 10) / 8))).toNatClampNeg 0))
    else (st 33 (((4 * a1) + ((a2 - 10) / 8))).toNatClampNeg 0))
  else (-1)
set_option maxRecDepth 100000 in
set_option maxHeartbeats 4000000 in
theorem k_MO_lookChannel (l : Launch) (D : va_G) (cA : Nat → ClassId) (b : Nat) (st : XS) (a1 : Int32) (a2 : Int32) (hd1 : vp_in a1 8) (hw : 10 ≤ a2.toInt ∧ a2.toInt < 42) : xMi mw D cA b l y_MO_lookChannel (Cond.code y_MO_lookChannel b_MO_lookChannel 5 (some .int)) { frames := 1, cells := 0, slots := 0, locals := 23 } st [.ref (b + 0), .int a1, .int a2] (f_MO_lookChannel st a1 a2) st := by
  refine xMi_of rfl (by decide) (Nat.le_of_ble_eq_true rfl) ?_
  intro p e s m below meth c ls C hlk hr hml hl hP hS
  have hl : lv_has ls 5 [(0, .ref (b + 0)), (1, .int a1), (2, .int a2)] := hl
  refine lv_iload_n C.1 C.2.1 d_MO_lookChannel_0 rfl (lv_at hl 2 rfl) ?_
  refine lv_bipush (v := 10) C.1 C.2.1 d_MO_lookChannel_1 (by decide) ?_
  refine lv_isub C.1 C.2.1 d_MO_lookChannel_3 ?_
  refine lv_bipush (v := 8) C.1 C.2.1 d_MO_lookChannel_4 (by decide) ?_
  refine lv_idiv C.1 C.2.1 d_MO_lookChannel_6 (by decide) ?_
  refine lv_istore_n C.1 C.2.1 d_MO_lookChannel_7 rfl hl (by decide) rfl (fun ls hl => ?_)
  have hl : lv_has ls 5 [(3, .int ((a2 - 10) / 8)), (0, .ref (b + 0)), (1, .int a1), (2, .int a2)] := hl
  refine lv_iconst (v := 4) C.1 C.2.1 d_MO_lookChannel_8 (by decide) ?_
  refine lv_iload_n C.1 C.2.1 d_MO_lookChannel_9 rfl (lv_at hl 2 rfl) ?_
  refine lv_imul C.1 C.2.1 d_MO_lookChannel_10 ?_
  refine lv_iload_n C.1 C.2.1 d_MO_lookChannel_11 rfl (lv_at hl 0 rfl) ?_
  refine lv_iadd C.1 C.2.1 d_MO_lookChannel_12 ?_
  refine lv_istore C.1 C.2.1 d_MO_lookChannel_13 hl (by decide) rfl (fun ls hl => ?_)
  have hl : lv_has ls 5 [(4, .int ((4 * a1) + ((a2 - 10) / 8))), (3, .int ((a2 - 10) / 8)), (0, .ref (b + 0)), (1, .int a1), (2, .int a2)] := hl
  refine lv_iload_n C.1 C.2.1 d_MO_lookChannel_15 rfl (lv_at hl 1 rfl) ?_
  refine lv_aload_n C.1 C.2.1 d_MO_lookChannel_16 rfl (lv_at hl 2 rfl) ?_
  refine xget C hP o_MO rfl c_MO (k := 8) (v := .ref (b + 5)) (by decide) wg_885 rfl d_MO_lookChannel_17 ?_
  refine lv_iload_n C.1 C.2.1 d_MO_lookChannel_20 rfl (lv_at hl 3 rfl) ?_
  refine xiald C hP om_5 rfl (v := (st 5 a1.toNatClampNeg 0)) hd1 rfl d_MO_lookChannel_21 ?_
  refine lv_icmp_lt (tgt := 27) C.1 C.2.1 d_MO_lookChannel_22 (by decide) (fun h1 => ?_) (fun h1 => ?_)
  · refine lv_iload_n C.1 C.2.1 d_MO_lookChannel_27 rfl (lv_at hl 4 rfl) ?_
    refine lv_bipush (v := 10) C.1 C.2.1 d_MO_lookChannel_28 (by decide) ?_
    refine lv_isub C.1 C.2.1 d_MO_lookChannel_30 ?_
    refine lv_bipush (v := 8) C.1 C.2.1 d_MO_lookChannel_31 (by decide) ?_
    refine lv_irem C.1 C.2.1 d_MO_lookChannel_33 (by decide) ?_
    by_cases h2 : ((a2 - 10) - (a2 - 10) / 8 * 8) = 0
    · refine lv_tableIn (tgt := 64) (off := 30) C.1 C.2.1 d_MO_lookChannel_34 (by rw [h2]; decide) (by rw [h2]; decide) (by rw [h2]; rfl) (by decide) ?_
      refine lv_aload_n C.1 C.2.1 d_MO_lookChannel_64 rfl (lv_at hl 2 rfl) ?_
      refine xget C hP o_MO rfl c_MO (k := 23) (v := .ref (b + 20)) (by decide) wg_900 rfl d_MO_lookChannel_65 ?_
      refine lv_iload C.1 C.2.1 d_MO_lookChannel_68 (lv_at hl 0 rfl) ?_
      refine xiald C hP om_20 rfl (v := (st 20 (((4 * a1) + ((a2 - 10) / 8))).toNatClampNeg 0)) (ix4 hd1 (lk_in hw)) rfl d_MO_lookChannel_70 ?_
      refine lv_if_ne (tgt := 78) C.1 C.2.1 d_MO_lookChannel_71 (by decide) (fun h3 => ?_) (fun h3 => ?_)
      · refine lv_aload_n C.1 C.2.1 d_MO_lookChannel_78 rfl (lv_at hl 2 rfl) ?_
        refine xget C hP o_MO rfl c_MO (k := 33) (v := .ref (b + 30)) (by decide) wg_910 rfl d_MO_lookChannel_79 ?_
        refine lv_iload C.1 C.2.1 d_MO_lookChannel_82 (lv_at hl 0 rfl) ?_
        refine xzald C hP om_30 rfl (v := (bz (st 30 (((4 * a1) + ((a2 - 10) / 8))).toNatClampNeg 0))) (ix4 hd1 (lk_in hw)) rfl d_MO_lookChannel_84 ?_
        refine lv_if_ne (tgt := 92) C.1 C.2.1 d_MO_lookChannel_85 (by decide) (fun h4 => ?_) (fun h4 => ?_)
        · refine lv_aload_n C.1 C.2.1 d_MO_lookChannel_92 rfl (lv_at hl 2 rfl) ?_
          refine xget C hP o_MO rfl c_MO (k := 34) (v := .ref (b + 31)) (by decide) wg_911 rfl d_MO_lookChannel_93 ?_
          refine lv_iload C.1 C.2.1 d_MO_lookChannel_96 (lv_at hl 0 rfl) ?_
          refine xzald C hP om_31 rfl (v := (bz (st 31 (((4 * a1) + ((a2 - 10) / 8))).toNatClampNeg 0))) (ix4 hd1 (lk_in hw)) rfl d_MO_lookChannel_98 ?_
          refine lv_if_eq (tgt := 106) C.1 C.2.1 d_MO_lookChannel_99 (by decide) (fun h5 => ?_) (fun h5 => ?_)
          · refine lv_iconst (v := 2) C.1 C.2.1 d_MO_lookChannel_106 (by decide) ?_
            exact xri C hlk hr hP hS d_MO_lookChannel_107 ⟨by rw [f_MO_lookChannel, if_pos h1, if_pos h2, if_neg h3, if_neg h4, if_pos h5], rfl⟩
          · refine lv_iconst (v := 3) C.1 C.2.1 d_MO_lookChannel_102 (by decide) ?_
            refine lv_goto (tgt := 107) C.1 C.2.1 d_MO_lookChannel_103 (by decide) ?_
            exact xri C hlk hr hP hS d_MO_lookChannel_107 ⟨by rw [f_MO_lookChannel, if_pos h1, if_pos h2, if_neg h3, if_neg h4, if_neg h5], rfl⟩
        · refine lv_iconst (v := 1) C.1 C.2.1 d_MO_lookChannel_88 (by decide) ?_
          refine lv_goto (tgt := 107) C.1 C.2.1 d_MO_lookChannel_89 (by decide) ?_
          exact xri C hlk hr hP hS d_MO_lookChannel_107 ⟨by rw [f_MO_lookChannel, if_pos h1, if_pos h2, if_neg h3, if_pos h4], rfl⟩
      · refine lv_iconst (v := 0) C.1 C.2.1 d_MO_lookChannel_74 (by decide) ?_
        refine lv_goto (tgt := 107) C.1 C.2.1 d_MO_lookChannel_75 (by decide) ?_
        exact xri C hlk hr hP hS d_MO_lookChannel_107 ⟨by rw [f_MO_lookChannel, if_pos h1, if_pos h2, if_pos h3], rfl⟩
    by_cases h6 : ((a2 - 10) - (a2 - 10) / 8 * 8) = 1
    · refine lv_tableIn (tgt := 108) (off := 74) C.1 C.2.1 d_MO_lookChannel_34 (by rw [h6]; decide) (by rw [h6]; decide) (by rw [h6]; rfl) (by decide) ?_
      refine lv_aload_n C.1 C.2.1 d_MO_lookChannel_108 rfl (lv_at hl 2 rfl) ?_
      refine lv_iload C.1 C.2.1 d_MO_lookChannel_109 (lv_at hl 0 rfl) ?_
      refine xcVi (rest := []) C hml hl.1 (k_MO_levelOf l D cA b st ((4 * a1) + ((a2 - 10) / 8)) (ix4 hd1 (lk_in hw))) q_MO_levelOf rfl rfl wg_1254 wg_1256 ws_73 ⟨Nat.le_of_ble_eq_true rfl, Nat.le_of_ble_eq_true rfl⟩ hP hS o_MO rfl c_MO rfl (Nat.le_of_ble_eq_true rfl) d_MO_lookChannel_111 rfl (fun H locs hP hS => ?_)
      exact xri C hlk hr hP hS d_MO_lookChannel_114 ⟨by rw [f_MO_lookChannel, if_pos h1, if_neg h2, if_pos h6], rfl⟩
    by_cases h7 : ((a2 - 10) - (a2 - 10) / 8 * 8) = 2
    · refine lv_tableIn (tgt := 115) (off := 81) C.1 C.2.1 d_MO_lookChannel_34 (by rw [h7]; decide) (by rw [h7]; decide) (by rw [h7]; rfl) (by decide) ?_
      refine lv_aload_n C.1 C.2.1 d_MO_lookChannel_115 rfl (lv_at hl 2 rfl) ?_
      refine xget C hP o_MO rfl c_MO (k := 26) (v := .ref (b + 23)) (by decide) wg_903 rfl d_MO_lookChannel_116 ?_
      refine lv_iload C.1 C.2.1 d_MO_lookChannel_119 (lv_at hl 0 rfl) ?_
      refine xzald C hP om_23 rfl (v := (bz (st 23 (((4 * a1) + ((a2 - 10) / 8))).toNatClampNeg 0))) (ix4 hd1 (lk_in hw)) rfl d_MO_lookChannel_121 ?_
      refine lv_if_eq (tgt := 129) C.1 C.2.1 d_MO_lookChannel_122 (by decide) (fun h8 => ?_) (fun h8 => ?_)
      · refine lv_iconst (v := 0) C.1 C.2.1 d_MO_lookChannel_129 (by decide) ?_
        exact xri C hlk hr hP hS d_MO_lookChannel_130 ⟨by rw [f_MO_lookChannel, if_pos h1, if_neg h2, if_neg h6, if_pos h7, if_pos h8], rfl⟩
      · refine lv_iconst (v := 1) C.1 C.2.1 d_MO_lookChannel_125 (by decide) ?_
        refine lv_goto (tgt := 130) C.1 C.2.1 d_MO_lookChannel_126 (by decide) ?_
        exact xri C hlk hr hP hS d_MO_lookChannel_130 ⟨by rw [f_MO_lookChannel, if_pos h1, if_neg h2, if_neg h6, if_pos h7, if_neg h8], rfl⟩
    by_cases h9 : ((a2 - 10) - (a2 - 10) / 8 * 8) = 3
    · refine lv_tableIn (tgt := 131) (off := 97) C.1 C.2.1 d_MO_lookChannel_34 (by rw [h9]; decide) (by rw [h9]; decide) (by rw [h9]; rfl) (by decide) ?_
      refine lv_aload_n C.1 C.2.1 d_MO_lookChannel_131 rfl (lv_at hl 2 rfl) ?_
      refine xget C hP o_MO rfl c_MO (k := 26) (v := .ref (b + 23)) (by decide) wg_903 rfl d_MO_lookChannel_132 ?_
      refine lv_iload C.1 C.2.1 d_MO_lookChannel_135 (lv_at hl 0 rfl) ?_
      refine xzald C hP om_23 rfl (v := (bz (st 23 (((4 * a1) + ((a2 - 10) / 8))).toNatClampNeg 0))) (ix4 hd1 (lk_in hw)) rfl d_MO_lookChannel_137 ?_
      refine lv_if_eq (tgt := 151) C.1 C.2.1 d_MO_lookChannel_138 (by decide) (fun h10 => ?_) (fun h10 => ?_)
      · refine lv_iconst (v := (-1)) C.1 C.2.1 d_MO_lookChannel_151 (by decide) ?_
        exact xri C hlk hr hP hS d_MO_lookChannel_152 ⟨by rw [f_MO_lookChannel, if_pos h1, if_neg h2, if_neg h6, if_neg h7, if_pos h9, if_pos h10], rfl⟩
      · refine lv_aload_n C.1 C.2.1 d_MO_lookChannel_141 rfl (lv_at hl 2 rfl) ?_
        refine xget C hP o_MO rfl c_MO (k := 28) (v := .ref (b + 25)) (by decide) wg_905 rfl d_MO_lookChannel_142 ?_
        refine lv_iload C.1 C.2.1 d_MO_lookChannel_145 (lv_at hl 0 rfl) ?_
        refine xiald C hP om_25 rfl (v := (st 25 (((4 * a1) + ((a2 - 10) / 8))).toNatClampNeg 0)) (ix4 hd1 (lk_in hw)) rfl d_MO_lookChannel_147 ?_
        refine lv_goto (tgt := 152) C.1 C.2.1 d_MO_lookChannel_148 (by decide) ?_
        exact xri C hlk hr hP hS d_MO_lookChannel_152 ⟨by rw [f_MO_lookChannel, if_pos h1, if_neg h2, if_neg h6, if_neg h7, if_pos h9, if_neg h10], rfl⟩
    refine lv_tableOut (tgt := 153) C.1 C.2.1 d_MO_lookChannel_34 (by have eh2 := lv_neT h2 (a := 0) (by decide); have eh6 := lv_neT h6 (a := 1) (by decide); have eh7 := lv_neT h7 (a := 2) (by decide); have eh9 := lv_neT h9 (a := 3) (by decide); omega) (by decide) ?_
    refine lv_aload_n C.1 C.2.1 d_MO_lookChannel_153 rfl (lv_at hl 2 rfl) ?_
    refine xget C hP o_MO rfl c_MO (k := 36) (v := .ref (b + 33)) (by decide) wg_913 rfl d_MO_lookChannel_154 ?_
    refine lv_iload C.1 C.2.1 d_MO_lookChannel_157 (lv_at hl 0 rfl) ?_
    refine xiald C hP om_33 rfl (v := (st 33 (((4 * a1) + ((a2 - 10) / 8))).toNatClampNeg 0)) (ix4 hd1 (lk_in hw)) rfl d_MO_lookChannel_159 ?_
    exact xri C hlk hr hP hS d_MO_lookChannel_160 ⟨by rw [f_MO_lookChannel, if_pos h1, if_neg h2, if_neg h6, if_neg h7, if_neg h9], rfl⟩
  · refine lv_iconst (v := (-1)) C.1 C.2.1 d_MO_lookChannel_25 (by decide) ?_
    exact xri C hlk hr hP hS d_MO_lookChannel_26 ⟨by rw [f_MO_lookChannel, if_neg h1], rfl⟩
