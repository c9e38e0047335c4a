def f_MO_sample (st : XS) (a1 : Int32) (a2 : Int32) (a3 : Int32) : XS × Int32 :=
  if (f_MO_isAt (xu st 0 0 0 0) a1 2) = 0 then ((xu st 0 0 0 0), 0)
  else if (st 6 a1.toNatClampNeg 0) = 0 then ((xu st 0 0 0 0), 0)
  else if (f_MO_isChannel (xu st 0 0 0 0) a1 a2) = 0 then ((xu st 0 0 0 0), 0)
  else if (f_MO_fits a3 (st 17 (((4 * a1) + a2)).toNatClampNeg 0) (st 18 (((4 * a1) + a2)).toNatClampNeg 0) (st 19 (((4 * a1) + a2)).toNatClampNeg 0)) = 0 then ((xu st 0 0 0 0), 0)
  else if (f_MO_isAbove (xu st 0 0 0 0) ((4 * a1) + a2)) = 0 then ((f_MO_settle (f_MO_sendValue (xu (xu (xu (xu (xu (xu st 0 0 0 0) 23 (((4 * a1) + a2)).toNatClampNeg 0 1) 24 (((4 * a1) + a2)).toNatClampNeg 0 1) 25 (((4 * a1) + a2)).toNatClampNeg 0 a3) 26 (((4 * a1) + a2)).toNatClampNeg 0 (st 0 1 0)) 28 (((4 * a1) + a2)).toNatClampNeg 0 (st 0 1 0)) a1 a2)), 1)
  else ((f_MO_settle (f_MO_sendValue (xu (xu (xu (xu (xu (xu st 0 0 0 0) 23 (((4 * a1) + a2)).toNatClampNeg 0 1) 24 (((4 * a1) + a2)).toNatClampNeg 0 1) 25 (((4 * a1) + a2)).toNatClampNeg 0 a3) 26 (((4 * a1) + a2)).toNatClampNeg 0 (st 0 1 0)) 28 (((4 * a1) + a2)).toNatClampNeg 0 (st 28 (((4 * a1) + a2)).toNatClampNeg 0)) a1 a2)), 1)
set_option maxRecDepth 100000 in
set_option maxHeartbeats 4000000 in
theorem z_MO_sample {st : XS} {a1 : Int32} {a2 : Int32} {a3 : Int32} : bz (f_MO_sample st a1 a2 a3).2 = (f_MO_sample st a1 a2 a3).2 := by
  unfold f_MO_sample
  repeat' split
  all_goals first | with_reducible exact bz_0 | with_reducible exact bz_1 | with_reducible exact bz_bz _ | with_reducible exact z_MO_fits | with_reducible exact z_MO_isAbove | with_reducible exact z_MO_isAt | with_reducible exact z_MO_isChannel
set_option maxRecDepth 100000 in
set_option maxHeartbeats 4000000 in
theorem fr_MO_sample {st : XS} {a1 : Int32} {a2 : Int32} {a3 : Int32} {a' k' i' : Nat} (h : (a', k') ∉ ([(0, 0), (0, 2), (0, 3), (0, 39)] : List (Nat × Nat))) (h2 : a' ∉ ([23, 24, 25, 26, 27, 28, 30, 31, 32, 36, 37, 38, 39, 40, 41, 42, 43] : List Nat)) : (f_MO_sample st a1 a2 a3).1 a' k' i' = st a' k' i' := by
  unfold f_MO_sample
  repeat' split
  all_goals (try dsimp only)
  all_goals (repeat (first | with_reducible rfl | rw [xu_f (fun e => h (by rw [e]; decide))] | rw [xu_a (fun e => h2 (by rw [e]; decide))] | rw [fr_MO_sendValue (fun q => h ((by decide : ∀ z ∈ ([(0, 2), (0, 3), (0, 39)] : List (Nat × Nat)), z ∈ ([(0, 0), (0, 2), (0, 3), (0, 39)] : List (Nat × Nat))) _ q)) (fun q => h2 ((by decide : ∀ z ∈ ([27, 36, 37, 38, 39, 40, 41, 42, 43] : List Nat), z ∈ ([23, 24, 25, 26, 27, 28, 30, 31, 32, 36, 37, 38, 39, 40, 41, 42, 43] : List Nat)) _ q))] | rw [fr_MO_settle (fun q => h ((by decide : ∀ z ∈ ([(0, 2), (0, 3), (0, 39)] : List (Nat × Nat)), z ∈ ([(0, 0), (0, 2), (0, 3), (0, 39)] : List (Nat × Nat))) _ q)) (fun q => h2 ((by decide : ∀ z ∈ ([30, 31, 32, 36, 37, 38, 39, 40, 41, 42, 43] : List Nat), z ∈ ([23, 24, 25, 26, 27, 28, 30, 31, 32, 36, 37, 38, 39, 40, 41, 42, 43] : List Nat)) _ q))]))
theorem p_MO_sample {st : XS} {a1 : Int32} {a2 : Int32} {a3 : Int32} (h : qok st) : qok (f_MO_sample st a1 a2 a3).1 := by
  unfold f_MO_sample
  repeat' split
  all_goals (try dsimp only)
  all_goals (repeat (first | with_reducible assumption | with_reducible refine p_MO_sendValue ?_ | with_reducible refine p_MO_settle ?_ | with_reducible refine qok_xa ?_ (by decide) | with_reducible refine qok_xu ?_ ?_ | decide))
set_option maxRecDepth 100000 in
set_option maxHeartbeats 4000000 in
theorem k_MO_sample (l : Launch) (D : va_G) (cA : Nat → ClassId) (b : Nat) (st : XS) (a1 : Int32) (a2 : Int32) (a3 : Int32) (hq : qok st) (hc : cok st) (hs : ¬ (f_MO_isAt (xu st 0 0 0 0) a1 2) = 0 → ¬ (f_MO_isChannel (xu st 0 0 0 0) a1 a2) = 0 → ¬ (st 19 ((4 * a1) + a2).toNatClampNeg 0) = 0) : xMi mw D cA b l y_MO_sample (Cond.code y_MO_sample b_MO_sample 6 (some .boolean)) { frames := 3, cells := 0, slots := 0, locals := 65 } st [.ref (b + 0), .int a1, .int a2, .int a3] (f_MO_sample st a1 a2 a3).2 (f_MO_sample st a1 a2 a3).1 := by
  refine xMi_of rfl (by decide) (Nat.le_of_ble_eq_true rfl) ?_
  intro p e s m below meth c ls C hlk hr hml hl hP hS
  have hl : lv_has ls 6 [(0, .ref (b + 0)), (1, .int a1), (2, .int a2), (3, .int a3)] := hl
  refine lv_aload_n C.1 C.2.1 d_MO_sample_0 rfl (lv_at hl 0 rfl) ?_
  refine lv_iconst (v := 0) C.1 C.2.1 d_MO_sample_1 (by decide) ?_
  refine xput mw_inj C hP hS o_MO rfl c_MO (k := 0) (x := 0) (by decide) wg_877 rfl rfl rfl rfl d_MO_sample_2 (fun H locs hP hS => ?_)
  refine lv_aload_n C.1 C.2.1 d_MO_sample_5 rfl (lv_at hl 0 rfl) ?_
  refine lv_iload_n C.1 C.2.1 d_MO_sample_6 rfl (lv_at hl 1 rfl) ?_
  refine lv_iconst (v := 2) C.1 C.2.1 d_MO_sample_7 (by decide) ?_
  refine xcVi (rest := []) C hml hl.1 (k_MO_isAt l D cA b (xu st 0 0 0 0) a1 2) q_MO_isAt rfl rfl wg_1083 wg_1085 ws_53 ⟨Nat.le_of_ble_eq_true rfl, Nat.le_of_ble_eq_true rfl⟩ hP hS o_MO rfl c_MO rfl (Nat.le_of_ble_eq_true rfl) d_MO_sample_8 rfl (fun H locs hP hS => ?_)
  refine lv_if_eq (tgt := 32) C.1 C.2.1 d_MO_sample_11 (by decide) (fun h1 => ?_) (fun h1 => ?_)
  · refine lv_iconst (v := 0) C.1 C.2.1 d_MO_sample_32 (by decide) ?_
    exact xrz C hlk hr bz_0 hP hS d_MO_sample_33 ⟨by rw [f_MO_sample, if_pos h1], by rw [f_MO_sample, if_pos h1]⟩
  · refine lv_aload_n C.1 C.2.1 d_MO_sample_14 rfl (lv_at hl 0 rfl) ?_
    refine xget C hP o_MO rfl c_MO (k := 9) (v := .ref (b + 6)) (by decide) wg_886 rfl d_MO_sample_15 ?_
    refine lv_iload_n C.1 C.2.1 d_MO_sample_18 rfl (lv_at hl 1 rfl) ?_
    refine xiald C hP om_6 rfl (v := (st 6 a1.toNatClampNeg 0)) (vm_isAt h1) (congrArg Value.int (xu_a (by decide))) d_MO_sample_19 ?_
    refine lv_if_eq (tgt := 32) C.1 C.2.1 d_MO_sample_20 (by decide) (fun h2 => ?_) (fun h2 => ?_)
    · refine lv_iconst (v := 0) C.1 C.2.1 d_MO_sample_32 (by decide) ?_
      exact xrz C hlk hr bz_0 hP hS d_MO_sample_33 ⟨by rw [f_MO_sample, if_neg h1, if_pos h2], by rw [f_MO_sample, if_neg h1, if_pos h2]⟩
    · refine lv_aload_n C.1 C.2.1 d_MO_sample_23 rfl (lv_at hl 0 rfl) ?_
      refine lv_iload_n C.1 C.2.1 d_MO_sample_24 rfl (lv_at hl 1 rfl) ?_
      refine lv_iload_n C.1 C.2.1 d_MO_sample_25 rfl (lv_at hl 2 rfl) ?_
      refine xcVi (rest := []) C hml hl.1 (k_MO_isChannel l D cA b (xu st 0 0 0 0) a1 a2) q_MO_isChannel rfl rfl wg_1099 wg_1101 ws_54 ⟨Nat.le_of_ble_eq_true rfl, Nat.le_of_ble_eq_true rfl⟩ hP hS o_MO rfl c_MO rfl (Nat.le_of_ble_eq_true rfl) d_MO_sample_26 rfl (fun H locs hP hS => ?_)
      refine lv_if_ne (tgt := 34) C.1 C.2.1 d_MO_sample_29 (by decide) (fun h3 => ?_) (fun h3 => ?_)
      · refine lv_iconst (v := 4) C.1 C.2.1 d_MO_sample_34 (by decide) ?_
        refine lv_iload_n C.1 C.2.1 d_MO_sample_35 rfl (lv_at hl 1 rfl) ?_
        refine lv_imul C.1 C.2.1 d_MO_sample_36 ?_
        refine lv_iload_n C.1 C.2.1 d_MO_sample_37 rfl (lv_at hl 2 rfl) ?_
        refine lv_iadd C.1 C.2.1 d_MO_sample_38 ?_
        refine lv_istore C.1 C.2.1 d_MO_sample_39 hl (by decide) rfl (fun ls hl => ?_)
        have hl : lv_has ls 6 [(4, .int ((4 * a1) + a2)), (0, .ref (b + 0)), (1, .int a1), (2, .int a2), (3, .int a3)] := hl
        refine lv_iload_n C.1 C.2.1 d_MO_sample_41 rfl (lv_at hl 4 rfl) ?_
        refine lv_aload_n C.1 C.2.1 d_MO_sample_42 rfl (lv_at hl 1 rfl) ?_
        refine xget C hP o_MO rfl c_MO (k := 20) (v := .ref (b + 17)) (by decide) wg_897 rfl d_MO_sample_43 ?_
        refine lv_iload C.1 C.2.1 d_MO_sample_46 (lv_at hl 0 rfl) ?_
        refine xiald C hP om_17 rfl (v := (st 17 (((4 * a1) + a2)).toNatClampNeg 0)) (ix4 (vm_isAt h1) (vm_isChannel h3 (by rw [xu_a (by decide)]; exact (hc _ (xin_lt (vm_isAt h1))).2))) (congrArg Value.int (xu_a (by decide))) d_MO_sample_48 ?_
        refine lv_aload_n C.1 C.2.1 d_MO_sample_49 rfl (lv_at hl 1 rfl) ?_
        refine xget C hP o_MO rfl c_MO (k := 21) (v := .ref (b + 18)) (by decide) wg_898 rfl d_MO_sample_50 ?_
        refine lv_iload C.1 C.2.1 d_MO_sample_53 (lv_at hl 0 rfl) ?_
        refine xiald C hP om_18 rfl (v := (st 18 (((4 * a1) + a2)).toNatClampNeg 0)) (ix4 (vm_isAt h1) (vm_isChannel h3 (by rw [xu_a (by decide)]; exact (hc _ (xin_lt (vm_isAt h1))).2))) (congrArg Value.int (xu_a (by decide))) d_MO_sample_55 ?_
        refine lv_aload_n C.1 C.2.1 d_MO_sample_56 rfl (lv_at hl 1 rfl) ?_
        refine xget C hP o_MO rfl c_MO (k := 22) (v := .ref (b + 19)) (by decide) wg_899 rfl d_MO_sample_57 ?_
        refine lv_iload C.1 C.2.1 d_MO_sample_60 (lv_at hl 0 rfl) ?_
        refine xiald C hP om_19 rfl (v := (st 19 (((4 * a1) + a2)).toNatClampNeg 0)) (ix4 (vm_isAt h1) (vm_isChannel h3 (by rw [xu_a (by decide)]; exact (hc _ (xin_lt (vm_isAt h1))).2))) (congrArg Value.int (xu_a (by decide))) d_MO_sample_62 ?_
        refine xcSi (rest := []) C hml hl.1 (k_MO_fits l D cA b (xu st 0 0 0 0) a3 (st 17 (((4 * a1) + a2)).toNatClampNeg 0) (st 18 (((4 * a1) + a2)).toNatClampNeg 0) (st 19 (((4 * a1) + a2)).toNatClampNeg 0) (hs h1 h3)) q_MO_fits rfl rfl wg_1151 wg_1152 ⟨Nat.le_of_ble_eq_true rfl, Nat.le_of_ble_eq_true rfl⟩ hP hS rfl (Nat.le_of_ble_eq_true rfl) d_MO_sample_63 rfl (fun H locs hP hS => ?_)
        refine lv_if_ne (tgt := 71) C.1 C.2.1 d_MO_sample_66 (by decide) (fun h4 => ?_) (fun h4 => ?_)
        · refine lv_aload_n C.1 C.2.1 d_MO_sample_71 rfl (lv_at hl 1 rfl) ?_
          refine lv_iload C.1 C.2.1 d_MO_sample_72 (lv_at hl 0 rfl) ?_
          refine xcVi (rest := []) C hml hl.1 (k_MO_isAbove l D cA b (xu st 0 0 0 0) ((4 * a1) + a2) (ix4 (vm_isAt h1) (vm_isChannel h3 (by rw [xu_a (by decide)]; exact (hc _ (xin_lt (vm_isAt h1))).2)))) q_MO_isAbove rfl rfl wg_1127 wg_1129 ws_58 ⟨Nat.le_of_ble_eq_true rfl, Nat.le_of_ble_eq_true rfl⟩ hP hS o_MO rfl c_MO rfl (Nat.le_of_ble_eq_true rfl) d_MO_sample_74 rfl (fun H locs hP hS => ?_)
          refine lv_istore C.1 C.2.1 d_MO_sample_77 hl (by decide) rfl (fun ls hl => ?_)
          have hl : lv_has ls 6 [(5, .int (f_MO_isAbove (xu st 0 0 0 0) ((4 * a1) + a2))), (4, .int ((4 * a1) + a2)), (0, .ref (b + 0)), (1, .int a1), (2, .int a2), (3, .int a3)] := hl
          refine lv_aload_n C.1 C.2.1 d_MO_sample_79 rfl (lv_at hl 2 rfl) ?_
          refine xget C hP o_MO rfl c_MO (k := 26) (v := .ref (b + 23)) (by decide) wg_903 rfl d_MO_sample_80 ?_
          refine lv_iload C.1 C.2.1 d_MO_sample_83 (lv_at hl 1 rfl) ?_
          refine lv_iconst (v := 1) C.1 C.2.1 d_MO_sample_85 (by decide) ?_
          refine xzast mw_inj C hP hS om_23 rfl (ix4 (vm_isAt h1) (vm_isChannel h3 (by rw [xu_a (by decide)]; exact (hc _ (xin_lt (vm_isAt h1))).2))) rfl d_MO_sample_86 (fun H locs hP hS => ?_)
          refine lv_aload_n C.1 C.2.1 d_MO_sample_87 rfl (lv_at hl 2 rfl) ?_
          refine xget C hP o_MO rfl c_MO (k := 27) (v := .ref (b + 24)) (by decide) wg_904 rfl d_MO_sample_88 ?_
          refine lv_iload C.1 C.2.1 d_MO_sample_91 (lv_at hl 1 rfl) ?_
          refine lv_iconst (v := 1) C.1 C.2.1 d_MO_sample_93 (by decide) ?_
          refine xzast mw_inj C hP hS om_24 rfl (ix4 (vm_isAt h1) (vm_isChannel h3 (by rw [xu_a (by decide)]; exact (hc _ (xin_lt (vm_isAt h1))).2))) rfl d_MO_sample_94 (fun H locs hP hS => ?_)
          refine lv_aload_n C.1 C.2.1 d_MO_sample_95 rfl (lv_at hl 2 rfl) ?_
          refine xget C hP o_MO rfl c_MO (k := 28) (v := .ref (b + 25)) (by decide) wg_905 rfl d_MO_sample_96 ?_
          refine lv_iload C.1 C.2.1 d_MO_sample_99 (lv_at hl 1 rfl) ?_
          refine lv_iload_n C.1 C.2.1 d_MO_sample_101 rfl (lv_at hl 5 rfl) ?_
          refine xiast mw_inj C hP hS om_25 rfl (ix4 (vm_isAt h1) (vm_isChannel h3 (by rw [xu_a (by decide)]; exact (hc _ (xin_lt (vm_isAt h1))).2))) rfl d_MO_sample_102 (fun H locs hP hS => ?_)
          refine lv_aload_n C.1 C.2.1 d_MO_sample_103 rfl (lv_at hl 2 rfl) ?_
          refine xget C hP o_MO rfl c_MO (k := 29) (v := .ref (b + 26)) (by decide) wg_906 rfl d_MO_sample_104 ?_
          refine lv_iload C.1 C.2.1 d_MO_sample_107 (lv_at hl 1 rfl) ?_
          refine lv_aload_n C.1 C.2.1 d_MO_sample_109 rfl (lv_at hl 2 rfl) ?_
          refine xget C hP o_MO rfl c_MO (k := 1) (v := .int (st 0 1 0)) (by decide) wg_878 (congrArg Value.int (Eq.trans (xu_a (by decide)) (Eq.trans (xu_a (by decide)) (Eq.trans (xu_a (by decide)) (xu_f (by decide)))))) d_MO_sample_110 ?_
          refine xiast mw_inj C hP hS om_26 rfl (ix4 (vm_isAt h1) (vm_isChannel h3 (by rw [xu_a (by decide)]; exact (hc _ (xin_lt (vm_isAt h1))).2))) rfl d_MO_sample_113 (fun H locs hP hS => ?_)
          refine lv_aload_n C.1 C.2.1 d_MO_sample_114 rfl (lv_at hl 2 rfl) ?_
          refine xget C hP o_MO rfl c_MO (k := 31) (v := .ref (b + 28)) (by decide) wg_908 rfl d_MO_sample_115 ?_
          refine lv_iload C.1 C.2.1 d_MO_sample_118 (lv_at hl 1 rfl) ?_
          refine lv_iload C.1 C.2.1 d_MO_sample_120 (lv_at hl 0 rfl) ?_
          refine lv_if_eq (tgt := 135) C.1 C.2.1 d_MO_sample_122 (by decide) (fun h5 => ?_) (fun h5 => ?_)
          · refine lv_aload_n C.1 C.2.1 d_MO_sample_135 rfl (lv_at hl 2 rfl) ?_
            refine xget C hP o_MO rfl c_MO (k := 1) (v := .int (st 0 1 0)) (by decide) wg_878 (congrArg Value.int (Eq.trans (xu_a (by decide)) (Eq.trans (xu_a (by decide)) (Eq.trans (xu_a (by decide)) (Eq.trans (xu_a (by decide)) (xu_f (by decide))))))) d_MO_sample_136 ?_
            refine xiast mw_inj C hP hS om_28 rfl (ix4 (vm_isAt h1) (vm_isChannel h3 (by rw [xu_a (by decide)]; exact (hc _ (xin_lt (vm_isAt h1))).2))) rfl d_MO_sample_139 (fun H locs hP hS => ?_)
            refine lv_aload_n C.1 C.2.1 d_MO_sample_140 rfl (lv_at hl 2 rfl) ?_
            refine lv_iload_n C.1 C.2.1 d_MO_sample_141 rfl (lv_at hl 3 rfl) ?_
            refine lv_iload_n C.1 C.2.1 d_MO_sample_142 rfl (lv_at hl 4 rfl) ?_
            refine xcVv (rest := []) C hml hl.1 (k_MO_sendValue l D cA b (xu (xu (xu (xu (xu (xu st 0 0 0 0) 23 (((4 * a1) + a2)).toNatClampNeg 0 1) 24 (((4 * a1) + a2)).toNatClampNeg 0 1) 25 (((4 * a1) + a2)).toNatClampNeg 0 a3) 26 (((4 * a1) + a2)).toNatClampNeg 0 (st 0 1 0)) 28 (((4 * a1) + a2)).toNatClampNeg 0 (st 0 1 0)) a1 a2 (qok_xa (qok_xa (qok_xa (qok_xa (qok_xa (qok_xu hq (by decide)) (by decide)) (by decide)) (by decide)) (by decide)) (by decide)) (vm_isAt h1) (vm_isChannel h3 (by rw [xu_a (by decide)]; exact (hc _ (xin_lt (vm_isAt h1))).2))) q_MO_sendValue rfl rfl wg_1154 wg_1156 ws_61 ⟨Nat.le_of_ble_eq_true rfl, Nat.le_of_ble_eq_true rfl⟩ hP hS o_MO rfl c_MO rfl (Nat.le_of_ble_eq_true rfl) d_MO_sample_143 rfl (fun H locs hP hS => ?_)
            refine lv_aload_n C.1 C.2.1 d_MO_sample_146 rfl (lv_at hl 2 rfl) ?_
            refine xcVv (rest := []) C hml hl.1 (k_MO_settle l D cA b (f_MO_sendValue (xu (xu (xu (xu (xu (xu st 0 0 0 0) 23 (((4 * a1) + a2)).toNatClampNeg 0 1) 24 (((4 * a1) + a2)).toNatClampNeg 0 1) 25 (((4 * a1) + a2)).toNatClampNeg 0 a3) 26 (((4 * a1) + a2)).toNatClampNeg 0 (st 0 1 0)) 28 (((4 * a1) + a2)).toNatClampNeg 0 (st 0 1 0)) a1 a2) (p_MO_sendValue (qok_xa (qok_xa (qok_xa (qok_xa (qok_xa (qok_xu hq (by decide)) (by decide)) (by decide)) (by decide)) (by decide)) (by decide))) (cok_of (cok_of (cok_of (cok_of (cok_of (cok_of (cok_of hc (fun _ => xu_a (by decide))) (fun _ => xu_a (by decide))) (fun _ => xu_a (by decide))) (fun _ => xu_a (by decide))) (fun _ => xu_a (by decide))) (fun _ => xu_a (by decide))) (fun _ => fr_MO_sendValue (by simp) (by decide)))) q_MO_settle rfl rfl wg_1119 wg_1121 ws_56 ⟨Nat.le_of_ble_eq_true rfl, Nat.le_of_ble_eq_true rfl⟩ hP hS o_MO rfl c_MO rfl (Nat.le_of_ble_eq_true rfl) d_MO_sample_147 rfl (fun H locs hP hS => ?_)
            refine lv_iconst (v := 1) C.1 C.2.1 d_MO_sample_150 (by decide) ?_
            exact xrz C hlk hr bz_1 hP hS d_MO_sample_151 ⟨by rw [f_MO_sample, if_neg h1, if_neg h2, if_neg h3, if_neg h4, if_pos h5], by rw [f_MO_sample, if_neg h1, if_neg h2, if_neg h3, if_neg h4, if_pos h5]⟩
          · refine lv_aload_n C.1 C.2.1 d_MO_sample_125 rfl (lv_at hl 2 rfl) ?_
            refine xget C hP o_MO rfl c_MO (k := 31) (v := .ref (b + 28)) (by decide) wg_908 rfl d_MO_sample_126 ?_
            refine lv_iload C.1 C.2.1 d_MO_sample_129 (lv_at hl 1 rfl) ?_
            refine xiald C hP om_28 rfl (v := (st 28 (((4 * a1) + a2)).toNatClampNeg 0)) (ix4 (vm_isAt h1) (vm_isChannel h3 (by rw [xu_a (by decide)]; exact (hc _ (xin_lt (vm_isAt h1))).2))) (congrArg Value.int (Eq.trans (xu_a (by decide)) (Eq.trans (xu_a (by decide)) (Eq.trans (xu_a (by decide)) (Eq.trans (xu_a (by decide)) (xu_a (by decide))))))) d_MO_sample_131 ?_
            refine lv_goto (tgt := 139) C.1 C.2.1 d_MO_sample_132 (by decide) ?_
            refine xiast mw_inj C hP hS om_28 rfl (ix4 (vm_isAt h1) (vm_isChannel h3 (by rw [xu_a (by decide)]; exact (hc _ (xin_lt (vm_isAt h1))).2))) rfl d_MO_sample_139 (fun H locs hP hS => ?_)
            refine lv_aload_n C.1 C.2.1 d_MO_sample_140 rfl (lv_at hl 2 rfl) ?_
            refine lv_iload_n C.1 C.2.1 d_MO_sample_141 rfl (lv_at hl 3 rfl) ?_
            refine lv_iload_n C.1 C.2.1 d_MO_sample_142 rfl (lv_at hl 4 rfl) ?_
            refine xcVv (rest := []) C hml hl.1 (k_MO_sendValue l D cA b (xu (xu (xu (xu (xu (xu st 0 0 0 0) 23 (((4 * a1) + a2)).toNatClampNeg 0 1) 24 (((4 * a1) + a2)).toNatClampNeg 0 1) 25 (((4 * a1) + a2)).toNatClampNeg 0 a3) 26 (((4 * a1) + a2)).toNatClampNeg 0 (st 0 1 0)) 28 (((4 * a1) + a2)).toNatClampNeg 0 (st 28 (((4 * a1) + a2)).toNatClampNeg 0)) a1 a2 (qok_xa (qok_xa (qok_xa (qok_xa (qok_xa (qok_xu hq (by decide)) (by decide)) (by decide)) (by decide)) (by decide)) (by decide)) (vm_isAt h1) (vm_isChannel h3 (by rw [xu_a (by decide)]; exact (hc _ (xin_lt (vm_isAt h1))).2))) q_MO_sendValue rfl rfl wg_1154 wg_1156 ws_61 ⟨Nat.le_of_ble_eq_true rfl, Nat.le_of_ble_eq_true rfl⟩ hP hS o_MO rfl c_MO rfl (Nat.le_of_ble_eq_true rfl) d_MO_sample_143 rfl (fun H locs hP hS => ?_)
            refine lv_aload_n C.1 C.2.1 d_MO_sample_146 rfl (lv_at hl 2 rfl) ?_
            refine xcVv (rest := []) C hml hl.1 (k_MO_settle l D cA b (f_MO_sendValue (xu (xu (xu (xu (xu (xu st 0 0 0 0) 23 (((4 * a1) + a2)).toNatClampNeg 0 1) 24 (((4 * a1) + a2)).toNatClampNeg 0 1) 25 (((4 * a1) + a2)).toNatClampNeg 0 a3) 26 (((4 * a1) + a2)).toNatClampNeg 0 (st 0 1 0)) 28 (((4 * a1) + a2)).toNatClampNeg 0 (st 28 (((4 * a1) + a2)).toNatClampNeg 0)) a1 a2) (p_MO_sendValue (qok_xa (qok_xa (qok_xa (qok_xa (qok_xa (qok_xu hq (by decide)) (by decide)) (by decide)) (by decide)) (by decide)) (by decide))) (cok_of (cok_of (cok_of (cok_of (cok_of (cok_of (cok_of hc (fun _ => xu_a (by decide))) (fun _ => xu_a (by decide))) (fun _ => xu_a (by decide))) (fun _ => xu_a (by decide))) (fun _ => xu_a (by decide))) (fun _ => xu_a (by decide))) (fun _ => fr_MO_sendValue (by simp) (by decide)))) q_MO_settle rfl rfl wg_1119 wg_1121 ws_56 ⟨Nat.le_of_ble_eq_true rfl, Nat.le_of_ble_eq_true rfl⟩ hP hS o_MO rfl c_MO rfl (Nat.le_of_ble_eq_true rfl) d_MO_sample_147 rfl (fun H locs hP hS => ?_)
            refine lv_iconst (v := 1) C.1 C.2.1 d_MO_sample_150 (by decide) ?_
            exact xrz C hlk hr bz_1 hP hS d_MO_sample_151 ⟨by rw [f_MO_sample, if_neg h1, if_neg h2, if_neg h3, if_neg h4, if_neg h5], by rw [f_MO_sample, if_neg h1, if_neg h2, if_neg h3, if_neg h4, if_neg h5]⟩
        · refine lv_iconst (v := 0) C.1 C.2.1 d_MO_sample_69 (by decide) ?_
          exact xrz C hlk hr bz_0 hP hS d_MO_sample_70 ⟨by rw [f_MO_sample, if_neg h1, if_neg h2, if_neg h3, if_pos h4], by rw [f_MO_sample, if_neg h1, if_neg h2, if_neg h3, if_pos h4]⟩
      · refine lv_iconst (v := 0) C.1 C.2.1 d_MO_sample_32 (by decide) ?_
        exact xrz C hlk hr bz_0 hP hS d_MO_sample_33 ⟨by rw [f_MO_sample, if_neg h1, if_neg h2, if_pos h3], by rw [f_MO_sample, if_neg h1, if_neg h2, if_pos h3]⟩
