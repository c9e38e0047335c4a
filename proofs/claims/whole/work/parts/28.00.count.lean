def f_BN_count (st : XS) (a1 : Int32) : Int32 :=
  if a1 < 300 then (if a1 < 200 then (if a1 < 100 then (if a1 = 0 then (st 0 8 0)
        else if a1 = 1 then (st 5 2 0)
        else if a1 = 2 then (st 5 1 0)
        else if a1 = 3 then (st 5 3 0)
        else if a1 = 4 then (st 0 6 0)
        else if a1 = 5 then (st 0 7 0)
        else if a1 = 6 then (if (f_BN_stationSounds st) = 0 then 0
          else 1)
        else (-1))
      else if (st 0 7 0) ≤ (a1 - 100) then (-1)
      else (st 16 4 ((a1 - 100)).toNatClampNeg))
    else if (st 5 1 0) ≤ (a1 - 200) then (-1)
    else (st 7 0 (st 6 ((a1 - 200)).toNatClampNeg 0).toNatClampNeg))
  else if (f_BN_isBed (a1 - 300)) = 0 then (-1)
  else (st 2 ((a1 - 300)).toNatClampNeg 0)
set_option maxRecDepth 100000 in
set_option maxHeartbeats 4000000 in
theorem k_BN_count (l : Launch) (D : va_G) (cA : Nat → ClassId) (b : Nat) (st : XS) (a1 : Int32) (hp : pok st) (ho : dok st) (hq : (st 0 7 0).toInt ≤ (100 : Nat)) : xMi cw D cA b l y_BN_count (Cond.code y_BN_count b_BN_count 2 (some .int)) { frames := 3, cells := 0, slots := 0, locals := 62 } st [.ref (b + 0), .int a1] (f_BN_count st a1) st := by
  refine xMi_of rfl (by decide) (Nat.le_of_ble_eq_true rfl) ?_
  intro p e s m below meth c ls C hlk hr hml hl hP hS
  have hl : lv_has ls 2 [(0, .ref (b + 0)), (1, .int a1)] := hl
  refine lv_iload_n C.1 C.2.1 d_BN_count_0 rfl (lv_at hl 1 rfl) ?_
  refine lv_sipush (v := 300) C.1 C.2.1 d_BN_count_1 (by decide) ?_
  refine lv_icmp_lt (tgt := 33) C.1 C.2.1 d_BN_count_4 (by decide) (fun h1 => ?_) (fun h1 => ?_)
  · refine lv_iload_n C.1 C.2.1 d_BN_count_33 rfl (lv_at hl 1 rfl) ?_
    refine lv_sipush (v := 200) C.1 C.2.1 d_BN_count_34 (by decide) ?_
    refine lv_icmp_lt (tgt := 76) C.1 C.2.1 d_BN_count_37 (by decide) (fun h2 => ?_) (fun h2 => ?_)
    · refine lv_iload_n C.1 C.2.1 d_BN_count_76 rfl (lv_at hl 1 rfl) ?_
      refine lv_bipush (v := 100) C.1 C.2.1 d_BN_count_77 (by decide) ?_
      refine lv_icmp_lt (tgt := 110) C.1 C.2.1 d_BN_count_79 (by decide) (fun h3 => ?_) (fun h3 => ?_)
      · refine lv_iload_n C.1 C.2.1 d_BN_count_110 rfl (lv_at hl 1 rfl) ?_
        by_cases h4 : a1 = 0
        · refine lv_tableIn (tgt := 152) (off := 41) C.1 C.2.1 d_BN_count_111 (by rw [h4]; decide) (by rw [h4]; decide) (by rw [h4]; rfl) (by decide) ?_
          refine lv_aload_n C.1 C.2.1 d_BN_count_152 rfl (lv_at hl 0 rfl) ?_
          refine xget C hP o_BN rfl c_BN (k := 8) (v := .int (st 0 8 0)) (by decide) wg_386 rfl d_BN_count_153 ?_
          exact xri C hlk hr hP hS d_BN_count_156 ⟨by rw [f_BN_count, if_pos h1, if_pos h2, if_pos h3, if_pos h4], rfl⟩
        by_cases h5 : a1 = 1
        · refine lv_tableIn (tgt := 157) (off := 46) C.1 C.2.1 d_BN_count_111 (by rw [h5]; decide) (by rw [h5]; decide) (by rw [h5]; rfl) (by decide) ?_
          refine lv_aload_n C.1 C.2.1 d_BN_count_157 rfl (lv_at hl 0 rfl) ?_
          refine xget C hP o_BN rfl c_BN (k := 4) (v := .ref (b + 5)) (by decide) wg_382 rfl d_BN_count_158 ?_
          refine xgetN C hP o_PO rfl c_PO (k := 2) (v := .int (st 5 2 0)) (by decide) wn_100 rfl d_BN_count_161 ?_
          exact xri C hlk hr hP hS d_BN_count_164 ⟨by rw [f_BN_count, if_pos h1, if_pos h2, if_pos h3, if_neg h4, if_pos h5], rfl⟩
        by_cases h6 : a1 = 2
        · refine lv_tableIn (tgt := 165) (off := 54) C.1 C.2.1 d_BN_count_111 (by rw [h6]; decide) (by rw [h6]; decide) (by rw [h6]; rfl) (by decide) ?_
          refine lv_aload_n C.1 C.2.1 d_BN_count_165 rfl (lv_at hl 0 rfl) ?_
          refine xget C hP o_BN rfl c_BN (k := 4) (v := .ref (b + 5)) (by decide) wg_382 rfl d_BN_count_166 ?_
          refine xgetN C hP o_PO rfl c_PO (k := 1) (v := .int (st 5 1 0)) (by decide) wn_98 rfl d_BN_count_169 ?_
          exact xri C hlk hr hP hS d_BN_count_172 ⟨by rw [f_BN_count, if_pos h1, if_pos h2, if_pos h3, if_neg h4, if_neg h5, if_pos h6], rfl⟩
        by_cases h7 : a1 = 3
        · refine lv_tableIn (tgt := 173) (off := 62) C.1 C.2.1 d_BN_count_111 (by rw [h7]; decide) (by rw [h7]; decide) (by rw [h7]; rfl) (by decide) ?_
          refine lv_aload_n C.1 C.2.1 d_BN_count_173 rfl (lv_at hl 0 rfl) ?_
          refine xget C hP o_BN rfl c_BN (k := 4) (v := .ref (b + 5)) (by decide) wg_382 rfl d_BN_count_174 ?_
          refine xgetN C hP o_PO rfl c_PO (k := 3) (v := .int (st 5 3 0)) (by decide) wn_102 rfl d_BN_count_177 ?_
          exact xri C hlk hr hP hS d_BN_count_180 ⟨by rw [f_BN_count, if_pos h1, if_pos h2, if_pos h3, if_neg h4, if_neg h5, if_neg h6, if_pos h7], rfl⟩
        by_cases h8 : a1 = 4
        · refine lv_tableIn (tgt := 181) (off := 70) C.1 C.2.1 d_BN_count_111 (by rw [h8]; decide) (by rw [h8]; decide) (by rw [h8]; rfl) (by decide) ?_
          refine lv_aload_n C.1 C.2.1 d_BN_count_181 rfl (lv_at hl 0 rfl) ?_
          refine xget C hP o_BN rfl c_BN (k := 6) (v := .int (st 0 6 0)) (by decide) wg_384 rfl d_BN_count_182 ?_
          exact xri C hlk hr hP hS d_BN_count_185 ⟨by rw [f_BN_count, if_pos h1, if_pos h2, if_pos h3, if_neg h4, if_neg h5, if_neg h6, if_neg h7, if_pos h8], rfl⟩
        by_cases h9 : a1 = 5
        · refine lv_tableIn (tgt := 186) (off := 75) C.1 C.2.1 d_BN_count_111 (by rw [h9]; decide) (by rw [h9]; decide) (by rw [h9]; rfl) (by decide) ?_
          refine lv_aload_n C.1 C.2.1 d_BN_count_186 rfl (lv_at hl 0 rfl) ?_
          refine xget C hP o_BN rfl c_BN (k := 7) (v := .int (st 0 7 0)) (by decide) wg_385 rfl d_BN_count_187 ?_
          exact xri C hlk hr hP hS d_BN_count_190 ⟨by rw [f_BN_count, if_pos h1, if_pos h2, if_pos h3, if_neg h4, if_neg h5, if_neg h6, if_neg h7, if_neg h8, if_pos h9], rfl⟩
        by_cases h10 : a1 = 6
        · refine lv_tableIn (tgt := 191) (off := 80) C.1 C.2.1 d_BN_count_111 (by rw [h10]; decide) (by rw [h10]; decide) (by rw [h10]; rfl) (by decide) ?_
          refine lv_aload_n C.1 C.2.1 d_BN_count_191 rfl (lv_at hl 0 rfl) ?_
          refine xcVi (rest := []) C hml hl.1 (k_BN_stationSounds l D cA b st ho) q_BN_stationSounds rfl rfl wg_629 wg_631 ws_34 ⟨Nat.le_of_ble_eq_true rfl, Nat.le_of_ble_eq_true rfl⟩ hP hS o_BN rfl c_BN rfl (Nat.le_of_ble_eq_true rfl) d_BN_count_192 rfl (fun H locs hP hS => ?_)
          refine lv_if_eq (tgt := 202) C.1 C.2.1 d_BN_count_195 (by decide) (fun h11 => ?_) (fun h11 => ?_)
          · refine lv_iconst (v := 0) C.1 C.2.1 d_BN_count_202 (by decide) ?_
            exact xri C hlk hr hP hS d_BN_count_203 ⟨by rw [f_BN_count, if_pos h1, if_pos h2, if_pos h3, if_neg h4, if_neg h5, if_neg h6, if_neg h7, if_neg h8, if_neg h9, if_pos h10, if_pos h11], rfl⟩
          · refine lv_iconst (v := 1) C.1 C.2.1 d_BN_count_198 (by decide) ?_
            refine lv_goto (tgt := 203) C.1 C.2.1 d_BN_count_199 (by decide) ?_
            exact xri C hlk hr hP hS d_BN_count_203 ⟨by rw [f_BN_count, if_pos h1, if_pos h2, if_pos h3, if_neg h4, if_neg h5, if_neg h6, if_neg h7, if_neg h8, if_neg h9, if_pos h10, if_neg h11], rfl⟩
        refine lv_tableOut (tgt := 204) C.1 C.2.1 d_BN_count_111 (by have eh4 := lv_neT h4 (a := 0) (by decide); have eh5 := lv_neT h5 (a := 1) (by decide); have eh6 := lv_neT h6 (a := 2) (by decide); have eh7 := lv_neT h7 (a := 3) (by decide); have eh8 := lv_neT h8 (a := 4) (by decide); have eh9 := lv_neT h9 (a := 5) (by decide); have eh10 := lv_neT h10 (a := 6) (by decide); omega) (by decide) ?_
        refine lv_iconst (v := (-1)) C.1 C.2.1 d_BN_count_204 (by decide) ?_
        exact xri C hlk hr hP hS d_BN_count_205 ⟨by rw [f_BN_count, if_pos h1, if_pos h2, if_pos h3, if_neg h4, if_neg h5, if_neg h6, if_neg h7, if_neg h8, if_neg h9, if_neg h10], rfl⟩
      · refine lv_iload_n C.1 C.2.1 d_BN_count_82 rfl (lv_at hl 1 rfl) ?_
        refine lv_bipush (v := 100) C.1 C.2.1 d_BN_count_83 (by decide) ?_
        refine lv_isub C.1 C.2.1 d_BN_count_85 ?_
        refine lv_aload_n C.1 C.2.1 d_BN_count_86 rfl (lv_at hl 0 rfl) ?_
        refine xget C hP o_BN rfl c_BN (k := 7) (v := .int (st 0 7 0)) (by decide) wg_385 rfl d_BN_count_87 ?_
        refine lv_icmp_ge (tgt := 108) C.1 C.2.1 d_BN_count_90 (by decide) (fun h12 => ?_) (fun h12 => ?_)
        · refine lv_iconst (v := (-1)) C.1 C.2.1 d_BN_count_108 (by decide) ?_
          exact xri C hlk hr hP hS d_BN_count_109 ⟨by rw [f_BN_count, if_pos h1, if_pos h2, if_neg h3, if_pos h12], rfl⟩
        · refine lv_aload_n C.1 C.2.1 d_BN_count_93 rfl (lv_at hl 0 rfl) ?_
          refine xget C hP o_BN rfl c_BN (k := 3) (v := .ref (b + 4)) (by decide) wg_381 rfl d_BN_count_94 ?_
          refine lv_iload_n C.1 C.2.1 d_BN_count_97 rfl (lv_at hl 1 rfl) ?_
          refine lv_bipush (v := 100) C.1 C.2.1 d_BN_count_98 (by decide) ?_
          refine lv_isub C.1 C.2.1 d_BN_count_100 ?_
          refine xaald C hP o_oa rfl (E := R_OR) rfl (v := b + (249 + ((a1 - 100)).toNatClampNeg)) (sub_in h3 (by decide) h12 (N := 100) hq) rfl d_BN_count_101 ?_
          refine xgetN C hP (o_OR (xin_lt (sub_in h3 (by decide) h12 (N := 100) hq))) rfl c_OR (k := 4) (v := .int (st 16 4 ((a1 - 100)).toNatClampNeg)) (by decide) wn_366 rfl d_BN_count_102 ?_
          refine lv_goto (tgt := 109) C.1 C.2.1 d_BN_count_105 (by decide) ?_
          exact xri C hlk hr hP hS d_BN_count_109 ⟨by rw [f_BN_count, if_pos h1, if_pos h2, if_neg h3, if_neg h12], rfl⟩
    · refine lv_iload_n C.1 C.2.1 d_BN_count_40 rfl (lv_at hl 1 rfl) ?_
      refine lv_sipush (v := 200) C.1 C.2.1 d_BN_count_41 (by decide) ?_
      refine lv_isub C.1 C.2.1 d_BN_count_44 ?_
      refine lv_aload_n C.1 C.2.1 d_BN_count_45 rfl (lv_at hl 0 rfl) ?_
      refine xget C hP o_BN rfl c_BN (k := 4) (v := .ref (b + 5)) (by decide) wg_382 rfl d_BN_count_46 ?_
      refine xgetN C hP o_PO rfl c_PO (k := 1) (v := .int (st 5 1 0)) (by decide) wn_98 rfl d_BN_count_49 ?_
      refine lv_icmp_ge (tgt := 74) C.1 C.2.1 d_BN_count_52 (by decide) (fun h13 => ?_) (fun h13 => ?_)
      · refine lv_iconst (v := (-1)) C.1 C.2.1 d_BN_count_74 (by decide) ?_
        exact xri C hlk hr hP hS d_BN_count_75 ⟨by rw [f_BN_count, if_pos h1, if_neg h2, if_pos h13], rfl⟩
      · refine lv_aload_n C.1 C.2.1 d_BN_count_55 rfl (lv_at hl 0 rfl) ?_
        refine xget C hP o_BN rfl c_BN (k := 4) (v := .ref (b + 5)) (by decide) wg_382 rfl d_BN_count_56 ?_
        refine xgetN C hP o_PO rfl c_PO (k := 0) (v := .ref (b + 6)) (by decide) wn_96 rfl d_BN_count_59 ?_
        refine lv_iload_n C.1 C.2.1 d_BN_count_62 rfl (lv_at hl 1 rfl) ?_
        refine lv_sipush (v := 200) C.1 C.2.1 d_BN_count_63 (by decide) ?_
        refine lv_isub C.1 C.2.1 d_BN_count_66 ?_
        refine xaald C hP o_sa rfl (E := R_ME) rfl (v := b + (7 + (st 6 ((a1 - 200)).toNatClampNeg 0).toNatClampNeg)) (sub_in h2 (by decide) h13 (N := 65) (by have := hp.2.1; omega)) rfl d_BN_count_67 ?_
        refine xgetN C hP (o_ME (hp.2.2 _ (xin_lt (sub_in h2 (by decide) h13 (N := 65) (by have := hp.2.1; omega))))) rfl c_ME (k := 0) (v := .int (st 7 0 (st 6 ((a1 - 200)).toNatClampNeg 0).toNatClampNeg)) (by decide) wn_51 rfl d_BN_count_68 ?_
        refine lv_goto (tgt := 75) C.1 C.2.1 d_BN_count_71 (by decide) ?_
        exact xri C hlk hr hP hS d_BN_count_75 ⟨by rw [f_BN_count, if_pos h1, if_neg h2, if_neg h13], rfl⟩
  · refine lv_iload_n C.1 C.2.1 d_BN_count_7 rfl (lv_at hl 1 rfl) ?_
    refine lv_sipush (v := 300) C.1 C.2.1 d_BN_count_8 (by decide) ?_
    refine lv_isub C.1 C.2.1 d_BN_count_11 ?_
    refine xcSi (rest := []) C hml hl.1 (k_BN_isBed l D cA b st (a1 - 300)) q_BN_isBed rfl rfl wg_413 wg_414 ⟨Nat.le_of_ble_eq_true rfl, Nat.le_of_ble_eq_true rfl⟩ hP hS rfl (Nat.le_of_ble_eq_true rfl) d_BN_count_12 rfl (fun H locs hP hS => ?_)
    refine lv_if_eq (tgt := 31) C.1 C.2.1 d_BN_count_15 (by decide) (fun h14 => ?_) (fun h14 => ?_)
    · refine lv_iconst (v := (-1)) C.1 C.2.1 d_BN_count_31 (by decide) ?_
      exact xri C hlk hr hP hS d_BN_count_32 ⟨by rw [f_BN_count, if_neg h1, if_pos h14], rfl⟩
    · refine lv_aload_n C.1 C.2.1 d_BN_count_18 rfl (lv_at hl 0 rfl) ?_
      refine xget C hP o_BN rfl c_BN (k := 1) (v := .ref (b + 2)) (by decide) wg_379 rfl d_BN_count_19 ?_
      refine lv_iload_n C.1 C.2.1 d_BN_count_22 rfl (lv_at hl 1 rfl) ?_
      refine lv_sipush (v := 300) C.1 C.2.1 d_BN_count_23 (by decide) ?_
      refine lv_isub C.1 C.2.1 d_BN_count_26 ?_
      refine xiald C hP o_pa rfl (v := (st 2 ((a1 - 300)).toNatClampNeg 0)) (vd_isBed h14) rfl d_BN_count_27 ?_
      refine lv_goto (tgt := 32) C.1 C.2.1 d_BN_count_28 (by decide) ?_
      exact xri C hlk hr hP hS d_BN_count_32 ⟨by rw [f_BN_count, if_neg h1, if_neg h14], rfl⟩
