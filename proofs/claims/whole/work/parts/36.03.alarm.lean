def f_MO_alarm (st : XS) (a1 : Int32) (a2 : Int32) (a3 : Int32) (a4 : Int32) (a5 : Int32) : XS × Int32 :=
  if (f_MO_isAt (xu st 0 0 0 0) a1 1) = 0 then ((xu st 0 0 0 0), 0)
  else if (f_MO_isChannel (xu st 0 0 0 0) a1 a2) = 0 then ((xu st 0 0 0 0), 0)
  else if a3 < 1 then ((xu st 0 0 0 0), 0)
  else if 3 < a3 then ((xu st 0 0 0 0), 0)
  else if (f_MO_isNumber a4) = 0 then ((xu st 0 0 0 0), 0)
  else if a5 < 0 then ((xu st 0 0 0 0), 0)
  else if a5 ≤ 100000 then ((xu (xu (xu (xu st 0 0 0 0) 20 (((4 * a1) + a2)).toNatClampNeg 0 a3) 21 (((4 * a1) + a2)).toNatClampNeg 0 a4) 22 (((4 * a1) + a2)).toNatClampNeg 0 a5), 1)
  else ((xu st 0 0 0 0), 0)
set_option maxRecDepth 100000 in
set_option maxHeartbeats 4000000 in
theorem z_MO_alarm {st : XS} {a1 : Int32} {a2 : Int32} {a3 : Int32} {a4 : Int32} {a5 : Int32} : bz (f_MO_alarm st a1 a2 a3 a4 a5).2 = (f_MO_alarm st a1 a2 a3 a4 a5).2 := by
  unfold f_MO_alarm
  repeat' split
  all_goals first | with_reducible exact bz_0 | with_reducible exact bz_1 | with_reducible exact bz_bz _ | with_reducible exact z_MO_isAt | with_reducible exact z_MO_isChannel | with_reducible exact z_MO_isNumber
set_option maxRecDepth 100000 in
set_option maxHeartbeats 4000000 in
theorem fr_MO_alarm {st : XS} {a1 : Int32} {a2 : Int32} {a3 : Int32} {a4 : Int32} {a5 : Int32} {a' k' i' : Nat} (h : (a', k') ∉ ([(0, 0)] : List (Nat × Nat))) (h2 : a' ∉ ([20, 21, 22] : List Nat)) : (f_MO_alarm st a1 a2 a3 a4 a5).1 a' k' i' = st a' k' i' := by
  unfold f_MO_alarm
  repeat' split
  all_goals (try dsimp only)
  all_goals (repeat (first | with_reducible rfl | rw [xu_f (fun e => h (by rw [e]; decide))] | rw [xu_a (fun e => h2 (by rw [e]; decide))]))
theorem p_MO_alarm {st : XS} {a1 : Int32} {a2 : Int32} {a3 : Int32} {a4 : Int32} {a5 : Int32} (h : qok st) : qok (f_MO_alarm st a1 a2 a3 a4 a5).1 := qok_of h (fr_MO_alarm (by decide) (by decide))
set_option maxRecDepth 100000 in
set_option maxHeartbeats 4000000 in
theorem k_MO_alarm (l : Launch) (D : va_G) (cA : Nat → ClassId) (b : Nat) (st : XS) (a1 : Int32) (a2 : Int32) (a3 : Int32) (a4 : Int32) (a5 : Int32) (hc : cok st) : xMi mw D cA b l y_MO_alarm (Cond.code y_MO_alarm b_MO_alarm 6 (some .boolean)) { frames := 2, cells := 0, slots := 0, locals := 42 } st [.ref (b + 0), .int a1, .int a2, .int a3, .int a4, .int a5] (f_MO_alarm st a1 a2 a3 a4 a5).2 (f_MO_alarm st a1 a2 a3 a4 a5).1 := by
  refine xMi_of rfl (by decide) (Nat.le_of_ble_eq_true rfl) ?_
  intro p e s m below meth c ls C hlk hr hml hl hP hS
  have hl : lv_has ls 6 [(0, .ref (b + 0)), (1, .int a1), (2, .int a2), (3, .int a3), (4, .int a4), (5, .int a5)] := hl
  refine lv_aload_n C.1 C.2.1 d_MO_alarm_0 rfl (lv_at hl 0 rfl) ?_
  refine lv_iconst (v := 0) C.1 C.2.1 d_MO_alarm_1 (by decide) ?_
  refine xput mw_inj C hP hS o_MO rfl c_MO (k := 0) (x := 0) (by decide) wg_877 rfl rfl rfl rfl d_MO_alarm_2 (fun H locs hP hS => ?_)
  refine lv_aload_n C.1 C.2.1 d_MO_alarm_5 rfl (lv_at hl 0 rfl) ?_
  refine lv_iload_n C.1 C.2.1 d_MO_alarm_6 rfl (lv_at hl 1 rfl) ?_
  refine lv_iconst (v := 1) C.1 C.2.1 d_MO_alarm_7 (by decide) ?_
  refine xcVi (rest := []) C hml hl.1 (k_MO_isAt l D cA b (xu st 0 0 0 0) a1 1) q_MO_isAt rfl rfl wg_1083 wg_1085 ws_53 ⟨Nat.le_of_ble_eq_true rfl, Nat.le_of_ble_eq_true rfl⟩ hP hS o_MO rfl c_MO rfl (Nat.le_of_ble_eq_true rfl) d_MO_alarm_8 rfl (fun H locs hP hS => ?_)
  refine lv_if_eq (tgt := 53) C.1 C.2.1 d_MO_alarm_11 (by decide) (fun h1 => ?_) (fun h1 => ?_)
  · refine lv_iconst (v := 0) C.1 C.2.1 d_MO_alarm_53 (by decide) ?_
    exact xrz C hlk hr bz_0 hP hS d_MO_alarm_54 ⟨by rw [f_MO_alarm, if_pos h1], by rw [f_MO_alarm, if_pos h1]⟩
  · refine lv_aload_n C.1 C.2.1 d_MO_alarm_14 rfl (lv_at hl 0 rfl) ?_
    refine lv_iload_n C.1 C.2.1 d_MO_alarm_15 rfl (lv_at hl 1 rfl) ?_
    refine lv_iload_n C.1 C.2.1 d_MO_alarm_16 rfl (lv_at hl 2 rfl) ?_
    refine xcVi (rest := []) C hml hl.1 (k_MO_isChannel l D cA b (xu st 0 0 0 0) a1 a2) q_MO_isChannel rfl rfl wg_1099 wg_1101 ws_54 ⟨Nat.le_of_ble_eq_true rfl, Nat.le_of_ble_eq_true rfl⟩ hP hS o_MO rfl c_MO rfl (Nat.le_of_ble_eq_true rfl) d_MO_alarm_17 rfl (fun H locs hP hS => ?_)
    refine lv_if_eq (tgt := 53) C.1 C.2.1 d_MO_alarm_20 (by decide) (fun h2 => ?_) (fun h2 => ?_)
    · refine lv_iconst (v := 0) C.1 C.2.1 d_MO_alarm_53 (by decide) ?_
      exact xrz C hlk hr bz_0 hP hS d_MO_alarm_54 ⟨by rw [f_MO_alarm, if_neg h1, if_pos h2], by rw [f_MO_alarm, if_neg h1, if_pos h2]⟩
    · refine lv_iload_n C.1 C.2.1 d_MO_alarm_23 rfl (lv_at hl 3 rfl) ?_
      refine lv_iconst (v := 1) C.1 C.2.1 d_MO_alarm_24 (by decide) ?_
      refine lv_icmp_lt (tgt := 53) C.1 C.2.1 d_MO_alarm_25 (by decide) (fun h3 => ?_) (fun h3 => ?_)
      · refine lv_iconst (v := 0) C.1 C.2.1 d_MO_alarm_53 (by decide) ?_
        exact xrz C hlk hr bz_0 hP hS d_MO_alarm_54 ⟨by rw [f_MO_alarm, if_neg h1, if_neg h2, if_pos h3], by rw [f_MO_alarm, if_neg h1, if_neg h2, if_pos h3]⟩
      · refine lv_iload_n C.1 C.2.1 d_MO_alarm_28 rfl (lv_at hl 3 rfl) ?_
        refine lv_iconst (v := 3) C.1 C.2.1 d_MO_alarm_29 (by decide) ?_
        refine lv_icmp_gt (tgt := 53) C.1 C.2.1 d_MO_alarm_30 (by decide) (fun h4 => ?_) (fun h4 => ?_)
        · refine lv_iconst (v := 0) C.1 C.2.1 d_MO_alarm_53 (by decide) ?_
          exact xrz C hlk hr bz_0 hP hS d_MO_alarm_54 ⟨by rw [f_MO_alarm, if_neg h1, if_neg h2, if_neg h3, if_pos h4], by rw [f_MO_alarm, if_neg h1, if_neg h2, if_neg h3, if_pos h4]⟩
        · refine lv_iload C.1 C.2.1 d_MO_alarm_33 (lv_at hl 4 rfl) ?_
          refine xcSi (rest := []) C hml hl.1 (k_MO_isNumber l D cA b (xu st 0 0 0 0) a4) q_MO_isNumber rfl rfl wg_1090 wg_1091 ⟨Nat.le_of_ble_eq_true rfl, Nat.le_of_ble_eq_true rfl⟩ hP hS rfl (Nat.le_of_ble_eq_true rfl) d_MO_alarm_35 rfl (fun H locs hP hS => ?_)
          refine lv_if_eq (tgt := 53) C.1 C.2.1 d_MO_alarm_38 (by decide) (fun h5 => ?_) (fun h5 => ?_)
          · refine lv_iconst (v := 0) C.1 C.2.1 d_MO_alarm_53 (by decide) ?_
            exact xrz C hlk hr bz_0 hP hS d_MO_alarm_54 ⟨by rw [f_MO_alarm, if_neg h1, if_neg h2, if_neg h3, if_neg h4, if_pos h5], by rw [f_MO_alarm, if_neg h1, if_neg h2, if_neg h3, if_neg h4, if_pos h5]⟩
          · refine lv_iload C.1 C.2.1 d_MO_alarm_41 (lv_at hl 5 rfl) ?_
            refine lv_if_lt (tgt := 53) C.1 C.2.1 d_MO_alarm_43 (by decide) (fun h6 => ?_) (fun h6 => ?_)
            · refine lv_iconst (v := 0) C.1 C.2.1 d_MO_alarm_53 (by decide) ?_
              exact xrz C hlk hr bz_0 hP hS d_MO_alarm_54 ⟨by rw [f_MO_alarm, if_neg h1, if_neg h2, if_neg h3, if_neg h4, if_neg h5, if_pos h6], by rw [f_MO_alarm, if_neg h1, if_neg h2, if_neg h3, if_neg h4, if_neg h5, if_pos h6]⟩
            · refine lv_iload C.1 C.2.1 d_MO_alarm_46 (lv_at hl 5 rfl) ?_
              refine lv_ldc (v := 100000) C.1 C.2.1 C.2.2.1 (C.2.2.2.1 _ wg_1094) d_MO_alarm_48 ?_
              refine lv_icmp_le (tgt := 55) C.1 C.2.1 d_MO_alarm_50 (by decide) (fun h7 => ?_) (fun h7 => ?_)
              · refine lv_aload_n C.1 C.2.1 d_MO_alarm_55 rfl (lv_at hl 0 rfl) ?_
                refine xget C hP o_MO rfl c_MO (k := 23) (v := .ref (b + 20)) (by decide) wg_900 rfl d_MO_alarm_56 ?_
                refine lv_iconst (v := 4) C.1 C.2.1 d_MO_alarm_59 (by decide) ?_
                refine lv_iload_n C.1 C.2.1 d_MO_alarm_60 rfl (lv_at hl 1 rfl) ?_
                refine lv_imul C.1 C.2.1 d_MO_alarm_61 ?_
                refine lv_iload_n C.1 C.2.1 d_MO_alarm_62 rfl (lv_at hl 2 rfl) ?_
                refine lv_iadd C.1 C.2.1 d_MO_alarm_63 ?_
                refine lv_iload_n C.1 C.2.1 d_MO_alarm_64 rfl (lv_at hl 3 rfl) ?_
                refine xiast mw_inj C hP hS om_20 rfl (ix4 (vm_isAt h1) (vm_isChannel h2 (by rw [xu_a (by decide)]; exact (hc _ (xin_lt (vm_isAt h1))).2))) rfl d_MO_alarm_65 (fun H locs hP hS => ?_)
                refine lv_aload_n C.1 C.2.1 d_MO_alarm_66 rfl (lv_at hl 0 rfl) ?_
                refine xget C hP o_MO rfl c_MO (k := 24) (v := .ref (b + 21)) (by decide) wg_901 rfl d_MO_alarm_67 ?_
                refine lv_iconst (v := 4) C.1 C.2.1 d_MO_alarm_70 (by decide) ?_
                refine lv_iload_n C.1 C.2.1 d_MO_alarm_71 rfl (lv_at hl 1 rfl) ?_
                refine lv_imul C.1 C.2.1 d_MO_alarm_72 ?_
                refine lv_iload_n C.1 C.2.1 d_MO_alarm_73 rfl (lv_at hl 2 rfl) ?_
                refine lv_iadd C.1 C.2.1 d_MO_alarm_74 ?_
                refine lv_iload C.1 C.2.1 d_MO_alarm_75 (lv_at hl 4 rfl) ?_
                refine xiast mw_inj C hP hS om_21 rfl (ix4 (vm_isAt h1) (vm_isChannel h2 (by rw [xu_a (by decide)]; exact (hc _ (xin_lt (vm_isAt h1))).2))) rfl d_MO_alarm_77 (fun H locs hP hS => ?_)
                refine lv_aload_n C.1 C.2.1 d_MO_alarm_78 rfl (lv_at hl 0 rfl) ?_
                refine xget C hP o_MO rfl c_MO (k := 25) (v := .ref (b + 22)) (by decide) wg_902 rfl d_MO_alarm_79 ?_
                refine lv_iconst (v := 4) C.1 C.2.1 d_MO_alarm_82 (by decide) ?_
                refine lv_iload_n C.1 C.2.1 d_MO_alarm_83 rfl (lv_at hl 1 rfl) ?_
                refine lv_imul C.1 C.2.1 d_MO_alarm_84 ?_
                refine lv_iload_n C.1 C.2.1 d_MO_alarm_85 rfl (lv_at hl 2 rfl) ?_
                refine lv_iadd C.1 C.2.1 d_MO_alarm_86 ?_
                refine lv_iload C.1 C.2.1 d_MO_alarm_87 (lv_at hl 5 rfl) ?_
                refine xiast mw_inj C hP hS om_22 rfl (ix4 (vm_isAt h1) (vm_isChannel h2 (by rw [xu_a (by decide)]; exact (hc _ (xin_lt (vm_isAt h1))).2))) rfl d_MO_alarm_89 (fun H locs hP hS => ?_)
                refine lv_iconst (v := 1) C.1 C.2.1 d_MO_alarm_90 (by decide) ?_
                exact xrz C hlk hr bz_1 hP hS d_MO_alarm_91 ⟨by rw [f_MO_alarm, if_neg h1, if_neg h2, if_neg h3, if_neg h4, if_neg h5, if_neg h6, if_pos h7], by rw [f_MO_alarm, if_neg h1, if_neg h2, if_neg h3, if_neg h4, if_neg h5, if_neg h6, if_pos h7]⟩
              · refine lv_iconst (v := 0) C.1 C.2.1 d_MO_alarm_53 (by decide) ?_
                exact xrz C hlk hr bz_0 hP hS d_MO_alarm_54 ⟨by rw [f_MO_alarm, if_neg h1, if_neg h2, if_neg h3, if_neg h4, if_neg h5, if_neg h6, if_neg h7], by rw [f_MO_alarm, if_neg h1, if_neg h2, if_neg h3, if_neg h4, if_neg h5, if_neg h6, if_neg h7]⟩
