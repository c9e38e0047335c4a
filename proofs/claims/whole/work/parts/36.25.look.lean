def f_MO_look (st : XS) (a1 : Int32) (a2 : Int32) : XS × Int32 :=
  if (f_MO_isDevice a1) = 0 then ((xu st 0 0 0 1), 0)
  else if a2 < 0 then (if a2 < 10 then ((xu st 0 0 0 1), 0)
    else if 42 ≤ a2 then ((xu st 0 0 0 1), 0)
    else if 5 ≤ ((a2 - 10) - (a2 - 10) / 8 * 8) then ((xu st 0 0 0 1), 0)
    else if a2 = 0 then ((xu st 0 0 0 0), (st 2 a1.toNatClampNeg 0))
    else if a2 = 1 then (if (st 2 a1.toNatClampNeg 0) = 0 then ((xu st 0 0 0 0), (-1))
      else ((xu st 0 0 0 0), (st 3 a1.toNatClampNeg 0)))
    else if a2 = 2 then ((xu st 0 0 0 0), (st 4 a1.toNatClampNeg 0))
    else if a2 = 3 then ((xu st 0 0 0 0), (st 5 a1.toNatClampNeg 0))
    else if a2 = 4 then ((xu st 0 0 0 0), (st 6 a1.toNatClampNeg 0))
    else if a2 = 5 then (if (f_MO_isLoud (xu st 0 0 0 0) a1) = 0 then ((xu st 0 0 0 0), 0)
      else ((xu st 0 0 0 0), 1))
    else if a2 = 6 then (if (bz (st 8 a1.toNatClampNeg 0)) = 0 then ((xu st 0 0 0 0), (-1))
      else ((xu st 0 0 0 0), (st 12 a1.toNatClampNeg 0)))
    else if a2 = 7 then (if (f_MO_isLeased (xu st 0 0 0 0) a1) = 0 then ((xu st 0 0 0 0), (-1))
      else ((xu st 0 0 0 0), (st 13 a1.toNatClampNeg 0)))
    else if a2 = 8 then (if (bz (st 7 a1.toNatClampNeg 0)) = 0 then ((xu st 0 0 0 0), 0)
      else ((xu st 0 0 0 0), 1))
    else if a2 = 9 then (if (bz (st 8 a1.toNatClampNeg 0)) = 0 then ((xu st 0 0 0 0), 0)
      else ((xu st 0 0 0 0), 1))
    else ((xu st 0 0 0 0), (f_MO_lookChannel (xu st 0 0 0 0) a1 a2)))
  else if a2 < 10 then (if a2 = 0 then ((xu st 0 0 0 0), (st 2 a1.toNatClampNeg 0))
    else if a2 = 1 then (if (st 2 a1.toNatClampNeg 0) = 0 then ((xu st 0 0 0 0), (-1))
      else ((xu st 0 0 0 0), (st 3 a1.toNatClampNeg 0)))
    else if a2 = 2 then ((xu st 0 0 0 0), (st 4 a1.toNatClampNeg 0))
    else if a2 = 3 then ((xu st 0 0 0 0), (st 5 a1.toNatClampNeg 0))
    else if a2 = 4 then ((xu st 0 0 0 0), (st 6 a1.toNatClampNeg 0))
    else if a2 = 5 then (if (f_MO_isLoud (xu st 0 0 0 0) a1) = 0 then ((xu st 0 0 0 0), 0)
      else ((xu st 0 0 0 0), 1))
    else if a2 = 6 then (if (bz (st 8 a1.toNatClampNeg 0)) = 0 then ((xu st 0 0 0 0), (-1))
      else ((xu st 0 0 0 0), (st 12 a1.toNatClampNeg 0)))
    else if a2 = 7 then (if (f_MO_isLeased (xu st 0 0 0 0) a1) = 0 then ((xu st 0 0 0 0), (-1))
      else ((xu st 0 0 0 0), (st 13 a1.toNatClampNeg 0)))
    else if a2 = 8 then (if (bz (st 7 a1.toNatClampNeg 0)) = 0 then ((xu st 0 0 0 0), 0)
      else ((xu st 0 0 0 0), 1))
    else if a2 = 9 then (if (bz (st 8 a1.toNatClampNeg 0)) = 0 then ((xu st 0 0 0 0), 0)
      else ((xu st 0 0 0 0), 1))
    else ((xu st 0 0 0 0), (f_MO_lookChannel (xu st 0 0 0 0) a1 a2)))
  else if 42 ≤ a2 then ((xu st 0 0 0 1), 0)
  else if 5 ≤ ((a2 - 10) - (a2 - 10) / 8 * 8) then ((xu st 0 0 0 1), 0)
  else if a2 = 0 then ((xu st 0 0 0 0), (st 2 a1.toNatClampNeg 0))
  else if a2 = 1 then (if (st 2 a1.toNatClampNeg 0) = 0 then ((xu st 0 0 0 0), (-1))
    else ((xu st 0 0 0 0), (st 3 a1.toNatClampNeg 0)))
  else if a2 = 2 then ((xu st 0 0 0 0), (st 4 a1.toNatClampNeg 0))
  else if a2 = 3 then ((xu st 0 0 0 0), (st 5 a1.toNatClampNeg 0))
  else if a2 = 4 then ((xu st 0 0 0 0), (st 6 a1.toNatClampNeg 0))
  else if a2 = 5 then (if (f_MO_isLoud (xu st 0 0 0 0) a1) = 0 then ((xu st 0 0 0 0), 0)
    else ((xu st 0 0 0 0), 1))
  else if a2 = 6 then (if (bz (st 8 a1.toNatClampNeg 0)) = 0 then ((xu st 0 0 0 0), (-1))
    else ((xu st 0 0 0 0), (st 12 a1.toNatClampNeg 0)))
  else if a2 = 7 then (if (f_MO_isLeased (xu st 0 0 0 0) a1) = 0 then ((xu st 0 0 0 0), (-1))
    else ((xu st 0 0 0 0), (st 13 a1.toNatClampNeg 0)))
  else if a2 = 8 then (if (bz (st 7 a1.toNatClampNeg 0)) = 0 then ((xu st 0 0 0 0), 0)
    else ((xu st 0 0 0 0), 1))
  else if a2 = 9 then (if (bz (st 8 a1.toNatClampNeg 0)) = 0 then ((xu st 0 0 0 0), 0)
    else ((xu st 0 0 0 0), 1))
  else ((xu st 0 0 0 0), (f_MO_lookChannel (xu st 0 0 0 0) a1 a2))
set_option maxRecDepth 100000 in
set_option maxHeartbeats 4000000 in
theorem fr_MO_look {st : XS} {a1 : Int32} {a2 : Int32} {a' k' i' : Nat} (h : (a', k') ∉ ([(0, 0)] : List (Nat × Nat))) (h2 : a' ∉ ([] : List Nat)) : (f_MO_look st a1 a2).1 a' k' i' = st a' k' i' := by
  unfold f_MO_look
  repeat' (with_reducible refine ite_fr ?_ ?_)
  all_goals (try dsimp only)
  all_goals (repeat (first | with_reducible rfl | rw [xu_f (fun e => h (by rw [e]; decide))]))
theorem p_MO_look {st : XS} {a1 : Int32} {a2 : Int32} (h : qok st) : qok (f_MO_look st a1 a2).1 := qok_of h (fr_MO_look (by decide) (by decide))
set_option maxRecDepth 100000 in
set_option maxHeartbeats 4000000 in
theorem k_MO_look (l : Launch) (D : va_G) (cA : Nat → ClassId) (b : Nat) (st : XS) (a1 : Int32) (a2 : Int32) : xMi mw D cA b l y_MO_look (Cond.code y_MO_look b_MO_look 4 (some .int)) { frames := 2, cells := 0, slots := 0, locals := 47 } st [.ref (b + 0), .int a1, .int a2] (f_MO_look st a1 a2).2 (f_MO_look st a1 a2).1 := by
  refine xMi_of rfl (by decide) (Nat.le_of_ble_eq_true rfl) ?_
  intro p e s m below meth c ls C hlk hr hml hl hP hS
  have hl : lv_has ls 4 [(0, .ref (b + 0)), (1, .int a1), (2, .int a2)] := hl
  refine lv_iload_n C.1 C.2.1 d_MO_look_0 rfl (lv_at hl 1 rfl) ?_
  refine xcSi (rest := []) C hml hl.1 (k_MO_isDevice l D cA b st a1) q_MO_isDevice rfl rfl wg_1073 wg_1074 ⟨Nat.le_of_ble_eq_true rfl, Nat.le_of_ble_eq_true rfl⟩ hP hS rfl (Nat.le_of_ble_eq_true rfl) d_MO_look_1 rfl (fun H locs hP hS => ?_)
  refine lv_if_eq (tgt := 44) C.1 C.2.1 d_MO_look_4 (by decide) (fun h1 => ?_) (fun h1 => ?_)
  · refine lv_iconst (v := 0) C.1 C.2.1 d_MO_look_44 (by decide) ?_
    refine lv_istore_n C.1 C.2.1 d_MO_look_45 rfl hl (by decide) rfl (fun ls hl => ?_)
    have hl : lv_has ls 4 [(3, .int 0), (0, .ref (b + 0)), (1, .int a1), (2, .int a2)] := hl
    refine lv_aload_n C.1 C.2.1 d_MO_look_46 rfl (lv_at hl 1 rfl) ?_
    refine lv_iload_n C.1 C.2.1 d_MO_look_47 rfl (lv_at hl 0 rfl) ?_
    refine lv_if_eq (tgt := 55) C.1 C.2.1 d_MO_look_48 (by decide) (fun _ => ?_) (fun h => absurd (by decide) h)
    refine lv_iconst (v := 1) C.1 C.2.1 d_MO_look_55 (by decide) ?_
    refine xput mw_inj C hP hS o_MO rfl c_MO (k := 0) (x := 1) (by decide) wg_877 rfl rfl rfl rfl d_MO_look_56 (fun H locs hP hS => ?_)
    refine lv_iload_n C.1 C.2.1 d_MO_look_59 rfl (lv_at hl 0 rfl) ?_
    refine lv_if_ne (tgt := 65) C.1 C.2.1 d_MO_look_60 (by decide) (fun h => absurd (by decide) h) (fun _ => ?_)
    refine lv_iconst (v := 0) C.1 C.2.1 d_MO_look_63 (by decide) ?_
    exact xri C hlk hr hP hS d_MO_look_64 ⟨by rw [f_MO_look, if_pos h1], by rw [f_MO_look, if_pos h1]⟩
  · refine lv_iload_n C.1 C.2.1 d_MO_look_7 rfl (lv_at hl 2 rfl) ?_
    refine lv_if_lt (tgt := 17) C.1 C.2.1 d_MO_look_8 (by decide) (fun h2 => ?_) (fun h2 => ?_)
    · refine lv_iload_n C.1 C.2.1 d_MO_look_17 rfl (lv_at hl 2 rfl) ?_
      refine lv_bipush (v := 10) C.1 C.2.1 d_MO_look_18 (by decide) ?_
      refine lv_icmp_lt (tgt := 44) C.1 C.2.1 d_MO_look_20 (by decide) (fun h3 => ?_) (fun h3 => ?_)
      · refine lv_iconst (v := 0) C.1 C.2.1 d_MO_look_44 (by decide) ?_
        refine lv_istore_n C.1 C.2.1 d_MO_look_45 rfl hl (by decide) rfl (fun ls hl => ?_)
        have hl : lv_has ls 4 [(3, .int 0), (0, .ref (b + 0)), (1, .int a1), (2, .int a2)] := hl
        refine lv_aload_n C.1 C.2.1 d_MO_look_46 rfl (lv_at hl 1 rfl) ?_
        refine lv_iload_n C.1 C.2.1 d_MO_look_47 rfl (lv_at hl 0 rfl) ?_
        refine lv_if_eq (tgt := 55) C.1 C.2.1 d_MO_look_48 (by decide) (fun _ => ?_) (fun h => absurd (by decide) h)
        refine lv_iconst (v := 1) C.1 C.2.1 d_MO_look_55 (by decide) ?_
        refine xput mw_inj C hP hS o_MO rfl c_MO (k := 0) (x := 1) (by decide) wg_877 rfl rfl rfl rfl d_MO_look_56 (fun H locs hP hS => ?_)
        refine lv_iload_n C.1 C.2.1 d_MO_look_59 rfl (lv_at hl 0 rfl) ?_
        refine lv_if_ne (tgt := 65) C.1 C.2.1 d_MO_look_60 (by decide) (fun h => absurd (by decide) h) (fun _ => ?_)
        refine lv_iconst (v := 0) C.1 C.2.1 d_MO_look_63 (by decide) ?_
        exact xri C hlk hr hP hS d_MO_look_64 ⟨by rw [f_MO_look, if_neg h1, if_pos h2, if_pos h3], by rw [f_MO_look, if_neg h1, if_pos h2, if_pos h3]⟩
      · refine lv_iload_n C.1 C.2.1 d_MO_look_23 rfl (lv_at hl 2 rfl) ?_
        refine lv_bipush (v := 42) C.1 C.2.1 d_MO_look_24 (by decide) ?_
        refine lv_icmp_ge (tgt := 44) C.1 C.2.1 d_MO_look_26 (by decide) (fun h4 => ?_) (fun h4 => ?_)
        · refine lv_iconst (v := 0) C.1 C.2.1 d_MO_look_44 (by decide) ?_
          refine lv_istore_n C.1 C.2.1 d_MO_look_45 rfl hl (by decide) rfl (fun ls hl => ?_)
          have hl : lv_has ls 4 [(3, .int 0), (0, .ref (b + 0)), (1, .int a1), (2, .int a2)] := hl
          refine lv_aload_n C.1 C.2.1 d_MO_look_46 rfl (lv_at hl 1 rfl) ?_
          refine lv_iload_n C.1 C.2.1 d_MO_look_47 rfl (lv_at hl 0 rfl) ?_
          refine lv_if_eq (tgt := 55) C.1 C.2.1 d_MO_look_48 (by decide) (fun _ => ?_) (fun h => absurd (by decide) h)
          refine lv_iconst (v := 1) C.1 C.2.1 d_MO_look_55 (by decide) ?_
          refine xput mw_inj C hP hS o_MO rfl c_MO (k := 0) (x := 1) (by decide) wg_877 rfl rfl rfl rfl d_MO_look_56 (fun H locs hP hS => ?_)
          refine lv_iload_n C.1 C.2.1 d_MO_look_59 rfl (lv_at hl 0 rfl) ?_
          refine lv_if_ne (tgt := 65) C.1 C.2.1 d_MO_look_60 (by decide) (fun h => absurd (by decide) h) (fun _ => ?_)
          refine lv_iconst (v := 0) C.1 C.2.1 d_MO_look_63 (by decide) ?_
          exact xri C hlk hr hP hS d_MO_look_64 ⟨by rw [f_MO_look, if_neg h1, if_pos h2, if_neg h3, if_pos h4], by rw [f_MO_look, if_neg h1, if_pos h2, if_neg h3, if_pos h4]⟩
        · refine lv_iload_n C.1 C.2.1 d_MO_look_29 rfl (lv_at hl 2 rfl) ?_
          refine lv_bipush (v := 10) C.1 C.2.1 d_MO_look_30 (by decide) ?_
          refine lv_isub C.1 C.2.1 d_MO_look_32 ?_
          refine lv_bipush (v := 8) C.1 C.2.1 d_MO_look_33 (by decide) ?_
          refine lv_irem C.1 C.2.1 d_MO_look_35 (by decide) ?_
          refine lv_iconst (v := 5) C.1 C.2.1 d_MO_look_36 (by decide) ?_
          refine lv_icmp_ge (tgt := 44) C.1 C.2.1 d_MO_look_37 (by decide) (fun h5 => ?_) (fun h5 => ?_)
          · refine lv_iconst (v := 0) C.1 C.2.1 d_MO_look_44 (by decide) ?_
            refine lv_istore_n C.1 C.2.1 d_MO_look_45 rfl hl (by decide) rfl (fun ls hl => ?_)
            have hl : lv_has ls 4 [(3, .int 0), (0, .ref (b + 0)), (1, .int a1), (2, .int a2)] := hl
            refine lv_aload_n C.1 C.2.1 d_MO_look_46 rfl (lv_at hl 1 rfl) ?_
            refine lv_iload_n C.1 C.2.1 d_MO_look_47 rfl (lv_at hl 0 rfl) ?_
            refine lv_if_eq (tgt := 55) C.1 C.2.1 d_MO_look_48 (by decide) (fun _ => ?_) (fun h => absurd (by decide) h)
            refine lv_iconst (v := 1) C.1 C.2.1 d_MO_look_55 (by decide) ?_
            refine xput mw_inj C hP hS o_MO rfl c_MO (k := 0) (x := 1) (by decide) wg_877 rfl rfl rfl rfl d_MO_look_56 (fun H locs hP hS => ?_)
            refine lv_iload_n C.1 C.2.1 d_MO_look_59 rfl (lv_at hl 0 rfl) ?_
            refine lv_if_ne (tgt := 65) C.1 C.2.1 d_MO_look_60 (by decide) (fun h => absurd (by decide) h) (fun _ => ?_)
            refine lv_iconst (v := 0) C.1 C.2.1 d_MO_look_63 (by decide) ?_
            exact xri C hlk hr hP hS d_MO_look_64 ⟨by rw [f_MO_look, if_neg h1, if_pos h2, if_neg h3, if_neg h4, if_pos h5], by rw [f_MO_look, if_neg h1, if_pos h2, if_neg h3, if_neg h4, if_pos h5]⟩
          · refine lv_iconst (v := 1) C.1 C.2.1 d_MO_look_40 (by decide) ?_
            refine lv_goto (tgt := 45) C.1 C.2.1 d_MO_look_41 (by decide) ?_
            refine lv_istore_n C.1 C.2.1 d_MO_look_45 rfl hl (by decide) rfl (fun ls hl => ?_)
            have hl : lv_has ls 4 [(3, .int 1), (0, .ref (b + 0)), (1, .int a1), (2, .int a2)] := hl
            refine lv_aload_n C.1 C.2.1 d_MO_look_46 rfl (lv_at hl 1 rfl) ?_
            refine lv_iload_n C.1 C.2.1 d_MO_look_47 rfl (lv_at hl 0 rfl) ?_
            refine lv_if_eq (tgt := 55) C.1 C.2.1 d_MO_look_48 (by decide) (fun h => absurd h (by decide)) (fun _ => ?_)
            refine lv_iconst (v := 0) C.1 C.2.1 d_MO_look_51 (by decide) ?_
            refine lv_goto (tgt := 56) C.1 C.2.1 d_MO_look_52 (by decide) ?_
            refine xput mw_inj C hP hS o_MO rfl c_MO (k := 0) (x := 0) (by decide) wg_877 rfl rfl rfl rfl d_MO_look_56 (fun H locs hP hS => ?_)
            refine lv_iload_n C.1 C.2.1 d_MO_look_59 rfl (lv_at hl 0 rfl) ?_
            refine lv_if_ne (tgt := 65) C.1 C.2.1 d_MO_look_60 (by decide) (fun _ => ?_) (fun h => absurd h (by decide))
            refine lv_iload_n C.1 C.2.1 d_MO_look_65 rfl (lv_at hl 3 rfl) ?_
            by_cases h6 : a2 = 0
            · refine lv_tableIn (tgt := 120) (off := 54) C.1 C.2.1 d_MO_look_66 (by rw [h6]; decide) (by rw [h6]; decide) (by rw [h6]; rfl) (by decide) ?_
              refine lv_aload_n C.1 C.2.1 d_MO_look_120 rfl (lv_at hl 1 rfl) ?_
              refine xget C hP o_MO rfl c_MO (k := 5) (v := .ref (b + 2)) (by decide) wg_882 rfl d_MO_look_121 ?_
              refine lv_iload_n C.1 C.2.1 d_MO_look_124 rfl (lv_at hl 2 rfl) ?_
              refine xiald C hP om_2 rfl (v := (st 2 a1.toNatClampNeg 0)) (vm_isDevice h1) (congrArg Value.int (xu_a (by decide))) d_MO_look_125 ?_
              exact xri C hlk hr hP hS d_MO_look_126 ⟨by rw [f_MO_look, if_neg h1, if_pos h2, if_neg h3, if_neg h4, if_neg h5, if_pos h6], by rw [f_MO_look, if_neg h1, if_pos h2, if_neg h3, if_neg h4, if_neg h5, if_pos h6]⟩
            by_cases h7 : a2 = 1
            · refine lv_tableIn (tgt := 127) (off := 61) C.1 C.2.1 d_MO_look_66 (by rw [h7]; decide) (by rw [h7]; decide) (by rw [h7]; rfl) (by decide) ?_
              refine lv_aload_n C.1 C.2.1 d_MO_look_127 rfl (lv_at hl 1 rfl) ?_
              refine xget C hP o_MO rfl c_MO (k := 5) (v := .ref (b + 2)) (by decide) wg_882 rfl d_MO_look_128 ?_
              refine lv_iload_n C.1 C.2.1 d_MO_look_131 rfl (lv_at hl 2 rfl) ?_
              refine xiald C hP om_2 rfl (v := (st 2 a1.toNatClampNeg 0)) (vm_isDevice h1) (congrArg Value.int (xu_a (by decide))) d_MO_look_132 ?_
              refine lv_if_ne (tgt := 140) C.1 C.2.1 d_MO_look_133 (by decide) (fun h8 => ?_) (fun h8 => ?_)
              · refine lv_aload_n C.1 C.2.1 d_MO_look_140 rfl (lv_at hl 1 rfl) ?_
                refine xget C hP o_MO rfl c_MO (k := 6) (v := .ref (b + 3)) (by decide) wg_883 rfl d_MO_look_141 ?_
                refine lv_iload_n C.1 C.2.1 d_MO_look_144 rfl (lv_at hl 2 rfl) ?_
                refine xiald C hP om_3 rfl (v := (st 3 a1.toNatClampNeg 0)) (vm_isDevice h1) (congrArg Value.int (xu_a (by decide))) d_MO_look_145 ?_
                exact xri C hlk hr hP hS d_MO_look_146 ⟨by rw [f_MO_look, if_neg h1, if_pos h2, if_neg h3, if_neg h4, if_neg h5, if_neg h6, if_pos h7, if_neg h8], by rw [f_MO_look, if_neg h1, if_pos h2, if_neg h3, if_neg h4, if_neg h5, if_neg h6, if_pos h7, if_neg h8]⟩
              · refine lv_iconst (v := (-1)) C.1 C.2.1 d_MO_look_136 (by decide) ?_
                refine lv_goto (tgt := 146) C.1 C.2.1 d_MO_look_137 (by decide) ?_
                exact xri C hlk hr hP hS d_MO_look_146 ⟨by rw [f_MO_look, if_neg h1, if_pos h2, if_neg h3, if_neg h4, if_neg h5, if_neg h6, if_pos h7, if_pos h8], by rw [f_MO_look, if_neg h1, if_pos h2, if_neg h3, if_neg h4, if_neg h5, if_neg h6, if_pos h7, if_pos h8]⟩
            by_cases h9 : a2 = 2
            · refine lv_tableIn (tgt := 147) (off := 81) C.1 C.2.1 d_MO_look_66 (by rw [h9]; decide) (by rw [h9]; decide) (by rw [h9]; rfl) (by decide) ?_
              refine lv_aload_n C.1 C.2.1 d_MO_look_147 rfl (lv_at hl 1 rfl) ?_
              refine xget C hP o_MO rfl c_MO (k := 7) (v := .ref (b + 4)) (by decide) wg_884 rfl d_MO_look_148 ?_
              refine lv_iload_n C.1 C.2.1 d_MO_look_151 rfl (lv_at hl 2 rfl) ?_
              refine xiald C hP om_4 rfl (v := (st 4 a1.toNatClampNeg 0)) (vm_isDevice h1) (congrArg Value.int (xu_a (by decide))) d_MO_look_152 ?_
              exact xri C hlk hr hP hS d_MO_look_153 ⟨by rw [f_MO_look, if_neg h1, if_pos h2, if_neg h3, if_neg h4, if_neg h5, if_neg h6, if_neg h7, if_pos h9], by rw [f_MO_look, if_neg h1, if_pos h2, if_neg h3, if_neg h4, if_neg h5, if_neg h6, if_neg h7, if_pos h9]⟩
            by_cases h10 : a2 = 3
            · refine lv_tableIn (tgt := 154) (off := 88) C.1 C.2.1 d_MO_look_66 (by rw [h10]; decide) (by rw [h10]; decide) (by rw [h10]; rfl) (by decide) ?_
              refine lv_aload_n C.1 C.2.1 d_MO_look_154 rfl (lv_at hl 1 rfl) ?_
              refine xget C hP o_MO rfl c_MO (k := 8) (v := .ref (b + 5)) (by decide) wg_885 rfl d_MO_look_155 ?_
              refine lv_iload_n C.1 C.2.1 d_MO_look_158 rfl (lv_at hl 2 rfl) ?_
              refine xiald C hP om_5 rfl (v := (st 5 a1.toNatClampNeg 0)) (vm_isDevice h1) (congrArg Value.int (xu_a (by decide))) d_MO_look_159 ?_
              exact xri C hlk hr hP hS d_MO_look_160 ⟨by rw [f_MO_look, if_neg h1, if_pos h2, if_neg h3, if_neg h4, if_neg h5, if_neg h6, if_neg h7, if_neg h9, if_pos h10], by rw [f_MO_look, if_neg h1, if_pos h2, if_neg h3, if_neg h4, if_neg h5, if_neg h6, if_neg h7, if_neg h9, if_pos h10]⟩
            by_cases h11 : a2 = 4
            · refine lv_tableIn (tgt := 161) (off := 95) C.1 C.2.1 d_MO_look_66 (by rw [h11]; decide) (by rw [h11]; decide) (by rw [h11]; rfl) (by decide) ?_
              refine lv_aload_n C.1 C.2.1 d_MO_look_161 rfl (lv_at hl 1 rfl) ?_
              refine xget C hP o_MO rfl c_MO (k := 9) (v := .ref (b + 6)) (by decide) wg_886 rfl d_MO_look_162 ?_
              refine lv_iload_n C.1 C.2.1 d_MO_look_165 rfl (lv_at hl 2 rfl) ?_
              refine xiald C hP om_6 rfl (v := (st 6 a1.toNatClampNeg 0)) (vm_isDevice h1) (congrArg Value.int (xu_a (by decide))) d_MO_look_166 ?_
              exact xri C hlk hr hP hS d_MO_look_167 ⟨by rw [f_MO_look, if_neg h1, if_pos h2, if_neg h3, if_neg h4, if_neg h5, if_neg h6, if_neg h7, if_neg h9, if_neg h10, if_pos h11], by rw [f_MO_look, if_neg h1, if_pos h2, if_neg h3, if_neg h4, if_neg h5, if_neg h6, if_neg h7, if_neg h9, if_neg h10, if_pos h11]⟩
            by_cases h12 : a2 = 5
            · refine lv_tableIn (tgt := 168) (off := 102) C.1 C.2.1 d_MO_look_66 (by rw [h12]; decide) (by rw [h12]; decide) (by rw [h12]; rfl) (by decide) ?_
              refine lv_aload_n C.1 C.2.1 d_MO_look_168 rfl (lv_at hl 1 rfl) ?_
              refine lv_iload_n C.1 C.2.1 d_MO_look_169 rfl (lv_at hl 2 rfl) ?_
              refine xcVi (rest := []) C hml hl.1 (k_MO_isLoud l D cA b (xu st 0 0 0 0) a1 (vm_isDevice h1)) q_MO_isLoud rfl rfl wg_1246 wg_1248 ws_71 ⟨Nat.le_of_ble_eq_true rfl, Nat.le_of_ble_eq_true rfl⟩ hP hS o_MO rfl c_MO rfl (Nat.le_of_ble_eq_true rfl) d_MO_look_170 rfl (fun H locs hP hS => ?_)
              refine lv_if_eq (tgt := 180) C.1 C.2.1 d_MO_look_173 (by decide) (fun h13 => ?_) (fun h13 => ?_)
              · refine lv_iconst (v := 0) C.1 C.2.1 d_MO_look_180 (by decide) ?_
                exact xri C hlk hr hP hS d_MO_look_181 ⟨by rw [f_MO_look, if_neg h1, if_pos h2, if_neg h3, if_neg h4, if_neg h5, if_neg h6, if_neg h7, if_neg h9, if_neg h10, if_neg h11, if_pos h12, if_pos h13], by rw [f_MO_look, if_neg h1, if_pos h2, if_neg h3, if_neg h4, if_neg h5, if_neg h6, if_neg h7, if_neg h9, if_neg h10, if_neg h11, if_pos h12, if_pos h13]⟩
              · refine lv_iconst (v := 1) C.1 C.2.1 d_MO_look_176 (by decide) ?_
                refine lv_goto (tgt := 181) C.1 C.2.1 d_MO_look_177 (by decide) ?_
                exact xri C hlk hr hP hS d_MO_look_181 ⟨by rw [f_MO_look, if_neg h1, if_pos h2, if_neg h3, if_neg h4, if_neg h5, if_neg h6, if_neg h7, if_neg h9, if_neg h10, if_neg h11, if_pos h12, if_neg h13], by rw [f_MO_look, if_neg h1, if_pos h2, if_neg h3, if_neg h4, if_neg h5, if_neg h6, if_neg h7, if_neg h9, if_neg h10, if_neg h11, if_pos h12, if_neg h13]⟩
            by_cases h14 : a2 = 6
            · refine lv_tableIn (tgt := 182) (off := 116) C.1 C.2.1 d_MO_look_66 (by rw [h14]; decide) (by rw [h14]; decide) (by rw [h14]; rfl) (by decide) ?_
              refine lv_aload_n C.1 C.2.1 d_MO_look_182 rfl (lv_at hl 1 rfl) ?_
              refine xget C hP o_MO rfl c_MO (k := 11) (v := .ref (b + 8)) (by decide) wg_888 rfl d_MO_look_183 ?_
              refine lv_iload_n C.1 C.2.1 d_MO_look_186 rfl (lv_at hl 2 rfl) ?_
              refine xzald C hP om_8 rfl (v := (bz (st 8 a1.toNatClampNeg 0))) (vm_isDevice h1) (congrArg (fun z => Value.int (bz z)) (xu_a (by decide))) d_MO_look_187 ?_
              refine lv_if_eq (tgt := 200) C.1 C.2.1 d_MO_look_188 (by decide) (fun h15 => ?_) (fun h15 => ?_)
              · refine lv_iconst (v := (-1)) C.1 C.2.1 d_MO_look_200 (by decide) ?_
                exact xri C hlk hr hP hS d_MO_look_201 ⟨by rw [f_MO_look, if_neg h1, if_pos h2, if_neg h3, if_neg h4, if_neg h5, if_neg h6, if_neg h7, if_neg h9, if_neg h10, if_neg h11, if_neg h12, if_pos h14, if_pos h15], by rw [f_MO_look, if_neg h1, if_pos h2, if_neg h3, if_neg h4, if_neg h5, if_neg h6, if_neg h7, if_neg h9, if_neg h10, if_neg h11, if_neg h12, if_pos h14, if_pos h15]⟩
              · refine lv_aload_n C.1 C.2.1 d_MO_look_191 rfl (lv_at hl 1 rfl) ?_
                refine xget C hP o_MO rfl c_MO (k := 15) (v := .ref (b + 12)) (by decide) wg_892 rfl d_MO_look_192 ?_
                refine lv_iload_n C.1 C.2.1 d_MO_look_195 rfl (lv_at hl 2 rfl) ?_
                refine xiald C hP om_12 rfl (v := (st 12 a1.toNatClampNeg 0)) (vm_isDevice h1) (congrArg Value.int (xu_a (by decide))) d_MO_look_196 ?_
                refine lv_goto (tgt := 201) C.1 C.2.1 d_MO_look_197 (by decide) ?_
                exact xri C hlk hr hP hS d_MO_look_201 ⟨by rw [f_MO_look, if_neg h1, if_pos h2, if_neg h3, if_neg h4, if_neg h5, if_neg h6, if_neg h7, if_neg h9, if_neg h10, if_neg h11, if_neg h12, if_pos h14, if_neg h15], by rw [f_MO_look, if_neg h1, if_pos h2, if_neg h3, if_neg h4, if_neg h5, if_neg h6, if_neg h7, if_neg h9, if_neg h10, if_neg h11, if_neg h12, if_pos h14, if_neg h15]⟩
            by_cases h16 : a2 = 7
            · refine lv_tableIn (tgt := 202) (off := 136) C.1 C.2.1 d_MO_look_66 (by rw [h16]; decide) (by rw [h16]; decide) (by rw [h16]; rfl) (by decide) ?_
              refine lv_aload_n C.1 C.2.1 d_MO_look_202 rfl (lv_at hl 1 rfl) ?_
              refine lv_iload_n C.1 C.2.1 d_MO_look_203 rfl (lv_at hl 2 rfl) ?_
              refine xcVi (rest := []) C hml hl.1 (k_MO_isLeased l D cA b (xu st 0 0 0 0) a1 (vm_isDevice h1)) q_MO_isLeased rfl rfl wg_1226 wg_1228 ws_70 ⟨Nat.le_of_ble_eq_true rfl, Nat.le_of_ble_eq_true rfl⟩ hP hS o_MO rfl c_MO rfl (Nat.le_of_ble_eq_true rfl) d_MO_look_204 rfl (fun H locs hP hS => ?_)
              refine lv_if_eq (tgt := 219) C.1 C.2.1 d_MO_look_207 (by decide) (fun h17 => ?_) (fun h17 => ?_)
              · refine lv_iconst (v := (-1)) C.1 C.2.1 d_MO_look_219 (by decide) ?_
                exact xri C hlk hr hP hS d_MO_look_220 ⟨by rw [f_MO_look, if_neg h1, if_pos h2, if_neg h3, if_neg h4, if_neg h5, if_neg h6, if_neg h7, if_neg h9, if_neg h10, if_neg h11, if_neg h12, if_neg h14, if_pos h16, if_pos h17], by rw [f_MO_look, if_neg h1, if_pos h2, if_neg h3, if_neg h4, if_neg h5, if_neg h6, if_neg h7, if_neg h9, if_neg h10, if_neg h11, if_neg h12, if_neg h14, if_pos h16, if_pos h17]⟩
              · refine lv_aload_n C.1 C.2.1 d_MO_look_210 rfl (lv_at hl 1 rfl) ?_
                refine xget C hP o_MO rfl c_MO (k := 16) (v := .ref (b + 13)) (by decide) wg_893 rfl d_MO_look_211 ?_
                refine lv_iload_n C.1 C.2.1 d_MO_look_214 rfl (lv_at hl 2 rfl) ?_
                refine xiald C hP om_13 rfl (v := (st 13 a1.toNatClampNeg 0)) (vm_isDevice h1) (congrArg Value.int (xu_a (by decide))) d_MO_look_215 ?_
                refine lv_goto (tgt := 220) C.1 C.2.1 d_MO_look_216 (by decide) ?_
                exact xri C hlk hr hP hS d_MO_look_220 ⟨by rw [f_MO_look, if_neg h1, if_pos h2, if_neg h3, if_neg h4, if_neg h5, if_neg h6, if_neg h7, if_neg h9, if_neg h10, if_neg h11, if_neg h12, if_neg h14, if_pos h16, if_neg h17], by rw [f_MO_look, if_neg h1, if_pos h2, if_neg h3, if_neg h4, if_neg h5, if_neg h6, if_neg h7, if_neg h9, if_neg h10, if_neg h11, if_neg h12, if_neg h14, if_pos h16, if_neg h17]⟩
            by_cases h18 : a2 = 8
            · refine lv_tableIn (tgt := 221) (off := 155) C.1 C.2.1 d_MO_look_66 (by rw [h18]; decide) (by rw [h18]; decide) (by rw [h18]; rfl) (by decide) ?_
              refine lv_aload_n C.1 C.2.1 d_MO_look_221 rfl (lv_at hl 1 rfl) ?_
              refine xget C hP o_MO rfl c_MO (k := 10) (v := .ref (b + 7)) (by decide) wg_887 rfl d_MO_look_222 ?_
              refine lv_iload_n C.1 C.2.1 d_MO_look_225 rfl (lv_at hl 2 rfl) ?_
              refine xzald C hP om_7 rfl (v := (bz (st 7 a1.toNatClampNeg 0))) (vm_isDevice h1) (congrArg (fun z => Value.int (bz z)) (xu_a (by decide))) d_MO_look_226 ?_
              refine lv_if_eq (tgt := 234) C.1 C.2.1 d_MO_look_227 (by decide) (fun h19 => ?_) (fun h19 => ?_)
              · refine lv_iconst (v := 0) C.1 C.2.1 d_MO_look_234 (by decide) ?_
                exact xri C hlk hr hP hS d_MO_look_235 ⟨by rw [f_MO_look, if_neg h1, if_pos h2, if_neg h3, if_neg h4, if_neg h5, if_neg h6, if_neg h7, if_neg h9, if_neg h10, if_neg h11, if_neg h12, if_neg h14, if_neg h16, if_pos h18, if_pos h19], by rw [f_MO_look, if_neg h1, if_pos h2, if_neg h3, if_neg h4, if_neg h5, if_neg h6, if_neg h7, if_neg h9, if_neg h10, if_neg h11, if_neg h12, if_neg h14, if_neg h16, if_pos h18, if_pos h19]⟩
              · refine lv_iconst (v := 1) C.1 C.2.1 d_MO_look_230 (by decide) ?_
                refine lv_goto (tgt := 235) C.1 C.2.1 d_MO_look_231 (by decide) ?_
                exact xri C hlk hr hP hS d_MO_look_235 ⟨by rw [f_MO_look, if_neg h1, if_pos h2, if_neg h3, if_neg h4, if_neg h5, if_neg h6, if_neg h7, if_neg h9, if_neg h10, if_neg h11, if_neg h12, if_neg h14, if_neg h16, if_pos h18, if_neg h19], by rw [f_MO_look, if_neg h1, if_pos h2, if_neg h3, if_neg h4, if_neg h5, if_neg h6, if_neg h7, if_neg h9, if_neg h10, if_neg h11, if_neg h12, if_neg h14, if_neg h16, if_pos h18, if_neg h19]⟩
            by_cases h20 : a2 = 9
            · refine lv_tableIn (tgt := 236) (off := 170) C.1 C.2.1 d_MO_look_66 (by rw [h20]; decide) (by rw [h20]; decide) (by rw [h20]; rfl) (by decide) ?_
              refine lv_aload_n C.1 C.2.1 d_MO_look_236 rfl (lv_at hl 1 rfl) ?_
              refine xget C hP o_MO rfl c_MO (k := 11) (v := .ref (b + 8)) (by decide) wg_888 rfl d_MO_look_237 ?_
              refine lv_iload_n C.1 C.2.1 d_MO_look_240 rfl (lv_at hl 2 rfl) ?_
              refine xzald C hP om_8 rfl (v := (bz (st 8 a1.toNatClampNeg 0))) (vm_isDevice h1) (congrArg (fun z => Value.int (bz z)) (xu_a (by decide))) d_MO_look_241 ?_
              refine lv_if_eq (tgt := 249) C.1 C.2.1 d_MO_look_242 (by decide) (fun h21 => ?_) (fun h21 => ?_)
              · refine lv_iconst (v := 0) C.1 C.2.1 d_MO_look_249 (by decide) ?_
                exact xri C hlk hr hP hS d_MO_look_250 ⟨by rw [f_MO_look, if_neg h1, if_pos h2, if_neg h3, if_neg h4, if_neg h5, if_neg h6, if_neg h7, if_neg h9, if_neg h10, if_neg h11, if_neg h12, if_neg h14, if_neg h16, if_neg h18, if_pos h20, if_pos h21], by rw [f_MO_look, if_neg h1, if_pos h2, if_neg h3, if_neg h4, if_neg h5, if_neg h6, if_neg h7, if_neg h9, if_neg h10, if_neg h11, if_neg h12, if_neg h14, if_neg h16, if_neg h18, if_pos h20, if_pos h21]⟩
              · refine lv_iconst (v := 1) C.1 C.2.1 d_MO_look_245 (by decide) ?_
                refine lv_goto (tgt := 250) C.1 C.2.1 d_MO_look_246 (by decide) ?_
                exact xri C hlk hr hP hS d_MO_look_250 ⟨by rw [f_MO_look, if_neg h1, if_pos h2, if_neg h3, if_neg h4, if_neg h5, if_neg h6, if_neg h7, if_neg h9, if_neg h10, if_neg h11, if_neg h12, if_neg h14, if_neg h16, if_neg h18, if_pos h20, if_neg h21], by rw [f_MO_look, if_neg h1, if_pos h2, if_neg h3, if_neg h4, if_neg h5, if_neg h6, if_neg h7, if_neg h9, if_neg h10, if_neg h11, if_neg h12, if_neg h14, if_neg h16, if_neg h18, if_pos h20, if_neg h21]⟩
            refine lv_tableOut (tgt := 251) C.1 C.2.1 d_MO_look_66 (by have eh6 := lv_neT h6 (a := 0) (by decide); have eh7 := lv_neT h7 (a := 1) (by decide); have eh9 := lv_neT h9 (a := 2) (by decide); have eh10 := lv_neT h10 (a := 3) (by decide); have eh11 := lv_neT h11 (a := 4) (by decide); have eh12 := lv_neT h12 (a := 5) (by decide); have eh14 := lv_neT h14 (a := 6) (by decide); have eh16 := lv_neT h16 (a := 7) (by decide); have eh18 := lv_neT h18 (a := 8) (by decide); have eh20 := lv_neT h20 (a := 9) (by decide); omega) (by decide) ?_
            refine lv_aload_n C.1 C.2.1 d_MO_look_251 rfl (lv_at hl 1 rfl) ?_
            refine lv_iload_n C.1 C.2.1 d_MO_look_252 rfl (lv_at hl 2 rfl) ?_
            refine lv_iload_n C.1 C.2.1 d_MO_look_253 rfl (lv_at hl 3 rfl) ?_
            refine xcVi (rest := []) C hml hl.1 (k_MO_lookChannel l D cA b (xu st 0 0 0 0) a1 a2 (vm_isDevice h1) (w42 h3 h4)) q_MO_lookChannel rfl rfl wg_1250 wg_1252 ws_72 ⟨Nat.le_of_ble_eq_true rfl, Nat.le_of_ble_eq_true rfl⟩ hP hS o_MO rfl c_MO rfl (Nat.le_of_ble_eq_true rfl) d_MO_look_254 rfl (fun H locs hP hS => ?_)
            exact xri C hlk hr hP hS d_MO_look_257 ⟨by rw [f_MO_look, if_neg h1, if_pos h2, if_neg h3, if_neg h4, if_neg h5, if_neg h6, if_neg h7, if_neg h9, if_neg h10, if_neg h11, if_neg h12, if_neg h14, if_neg h16, if_neg h18, if_neg h20], by rw [f_MO_look, if_neg h1, if_pos h2, if_neg h3, if_neg h4, if_neg h5, if_neg h6, if_neg h7, if_neg h9, if_neg h10, if_neg h11, if_neg h12, if_neg h14, if_neg h16, if_neg h18, if_neg h20]⟩
    · refine lv_iload_n C.1 C.2.1 d_MO_look_11 rfl (lv_at hl 2 rfl) ?_
      refine lv_bipush (v := 10) C.1 C.2.1 d_MO_look_12 (by decide) ?_
      refine lv_icmp_lt (tgt := 40) C.1 C.2.1 d_MO_look_14 (by decide) (fun h22 => ?_) (fun h22 => ?_)
      · refine lv_iconst (v := 1) C.1 C.2.1 d_MO_look_40 (by decide) ?_
        refine lv_goto (tgt := 45) C.1 C.2.1 d_MO_look_41 (by decide) ?_
        refine lv_istore_n C.1 C.2.1 d_MO_look_45 rfl hl (by decide) rfl (fun ls hl => ?_)
        have hl : lv_has ls 4 [(3, .int 1), (0, .ref (b + 0)), (1, .int a1), (2, .int a2)] := hl
        refine lv_aload_n C.1 C.2.1 d_MO_look_46 rfl (lv_at hl 1 rfl) ?_
        refine lv_iload_n C.1 C.2.1 d_MO_look_47 rfl (lv_at hl 0 rfl) ?_
        refine lv_if_eq (tgt := 55) C.1 C.2.1 d_MO_look_48 (by decide) (fun h => absurd h (by decide)) (fun _ => ?_)
        refine lv_iconst (v := 0) C.1 C.2.1 d_MO_look_51 (by decide) ?_
        refine lv_goto (tgt := 56) C.1 C.2.1 d_MO_look_52 (by decide) ?_
        refine xput mw_inj C hP hS o_MO rfl c_MO (k := 0) (x := 0) (by decide) wg_877 rfl rfl rfl rfl d_MO_look_56 (fun H locs hP hS => ?_)
        refine lv_iload_n C.1 C.2.1 d_MO_look_59 rfl (lv_at hl 0 rfl) ?_
        refine lv_if_ne (tgt := 65) C.1 C.2.1 d_MO_look_60 (by decide) (fun _ => ?_) (fun h => absurd h (by decide))
        refine lv_iload_n C.1 C.2.1 d_MO_look_65 rfl (lv_at hl 3 rfl) ?_
        by_cases h23 : a2 = 0
        · refine lv_tableIn (tgt := 120) (off := 54) C.1 C.2.1 d_MO_look_66 (by rw [h23]; decide) (by rw [h23]; decide) (by rw [h23]; rfl) (by decide) ?_
          refine lv_aload_n C.1 C.2.1 d_MO_look_120 rfl (lv_at hl 1 rfl) ?_
          refine xget C hP o_MO rfl c_MO (k := 5) (v := .ref (b + 2)) (by decide) wg_882 rfl d_MO_look_121 ?_
          refine lv_iload_n C.1 C.2.1 d_MO_look_124 rfl (lv_at hl 2 rfl) ?_
          refine xiald C hP om_2 rfl (v := (st 2 a1.toNatClampNeg 0)) (vm_isDevice h1) (congrArg Value.int (xu_a (by decide))) d_MO_look_125 ?_
          exact xri C hlk hr hP hS d_MO_look_126 ⟨by rw [f_MO_look, if_neg h1, if_neg h2, if_pos h22, if_pos h23], by rw [f_MO_look, if_neg h1, if_neg h2, if_pos h22, if_pos h23]⟩
        by_cases h24 : a2 = 1
        · refine lv_tableIn (tgt := 127) (off := 61) C.1 C.2.1 d_MO_look_66 (by rw [h24]; decide) (by rw [h24]; decide) (by rw [h24]; rfl) (by decide) ?_
          refine lv_aload_n C.1 C.2.1 d_MO_look_127 rfl (lv_at hl 1 rfl) ?_
          refine xget C hP o_MO rfl c_MO (k := 5) (v := .ref (b + 2)) (by decide) wg_882 rfl d_MO_look_128 ?_
          refine lv_iload_n C.1 C.2.1 d_MO_look_131 rfl (lv_at hl 2 rfl) ?_
          refine xiald C hP om_2 rfl (v := (st 2 a1.toNatClampNeg 0)) (vm_isDevice h1) (congrArg Value.int (xu_a (by decide))) d_MO_look_132 ?_
          refine lv_if_ne (tgt := 140) C.1 C.2.1 d_MO_look_133 (by decide) (fun h25 => ?_) (fun h25 => ?_)
          · refine lv_aload_n C.1 C.2.1 d_MO_look_140 rfl (lv_at hl 1 rfl) ?_
            refine xget C hP o_MO rfl c_MO (k := 6) (v := .ref (b + 3)) (by decide) wg_883 rfl d_MO_look_141 ?_
            refine lv_iload_n C.1 C.2.1 d_MO_look_144 rfl (lv_at hl 2 rfl) ?_
            refine xiald C hP om_3 rfl (v := (st 3 a1.toNatClampNeg 0)) (vm_isDevice h1) (congrArg Value.int (xu_a (by decide))) d_MO_look_145 ?_
            exact xri C hlk hr hP hS d_MO_look_146 ⟨by rw [f_MO_look, if_neg h1, if_neg h2, if_pos h22, if_neg h23, if_pos h24, if_neg h25], by rw [f_MO_look, if_neg h1, if_neg h2, if_pos h22, if_neg h23, if_pos h24, if_neg h25]⟩
          · refine lv_iconst (v := (-1)) C.1 C.2.1 d_MO_look_136 (by decide) ?_
            refine lv_goto (tgt := 146) C.1 C.2.1 d_MO_look_137 (by decide) ?_
            exact xri C hlk hr hP hS d_MO_look_146 ⟨by rw [f_MO_look, if_neg h1, if_neg h2, if_pos h22, if_neg h23, if_pos h24, if_pos h25], by rw [f_MO_look, if_neg h1, if_neg h2, if_pos h22, if_neg h23, if_pos h24, if_pos h25]⟩
        by_cases h26 : a2 = 2
        · refine lv_tableIn (tgt := 147) (off := 81) C.1 C.2.1 d_MO_look_66 (by rw [h26]; decide) (by rw [h26]; decide) (by rw [h26]; rfl) (by decide) ?_
          refine lv_aload_n C.1 C.2.1 d_MO_look_147 rfl (lv_at hl 1 rfl) ?_
          refine xget C hP o_MO rfl c_MO (k := 7) (v := .ref (b + 4)) (by decide) wg_884 rfl d_MO_look_148 ?_
          refine lv_iload_n C.1 C.2.1 d_MO_look_151 rfl (lv_at hl 2 rfl) ?_
          refine xiald C hP om_4 rfl (v := (st 4 a1.toNatClampNeg 0)) (vm_isDevice h1) (congrArg Value.int (xu_a (by decide))) d_MO_look_152 ?_
          exact xri C hlk hr hP hS d_MO_look_153 ⟨by rw [f_MO_look, if_neg h1, if_neg h2, if_pos h22, if_neg h23, if_neg h24, if_pos h26], by rw [f_MO_look, if_neg h1, if_neg h2, if_pos h22, if_neg h23, if_neg h24, if_pos h26]⟩
        by_cases h27 : a2 = 3
        · refine lv_tableIn (tgt := 154) (off := 88) C.1 C.2.1 d_MO_look_66 (by rw [h27]; decide) (by rw [h27]; decide) (by rw [h27]; rfl) (by decide) ?_
          refine lv_aload_n C.1 C.2.1 d_MO_look_154 rfl (lv_at hl 1 rfl) ?_
          refine xget C hP o_MO rfl c_MO (k := 8) (v := .ref (b + 5)) (by decide) wg_885 rfl d_MO_look_155 ?_
          refine lv_iload_n C.1 C.2.1 d_MO_look_158 rfl (lv_at hl 2 rfl) ?_
          refine xiald C hP om_5 rfl (v := (st 5 a1.toNatClampNeg 0)) (vm_isDevice h1) (congrArg Value.int (xu_a (by decide))) d_MO_look_159 ?_
          exact xri C hlk hr hP hS d_MO_look_160 ⟨by rw [f_MO_look, if_neg h1, if_neg h2, if_pos h22, if_neg h23, if_neg h24, if_neg h26, if_pos h27], by rw [f_MO_look, if_neg h1, if_neg h2, if_pos h22, if_neg h23, if_neg h24, if_neg h26, if_pos h27]⟩
        by_cases h28 : a2 = 4
        · refine lv_tableIn (tgt := 161) (off := 95) C.1 C.2.1 d_MO_look_66 (by rw [h28]; decide) (by rw [h28]; decide) (by rw [h28]; rfl) (by decide) ?_
          refine lv_aload_n C.1 C.2.1 d_MO_look_161 rfl (lv_at hl 1 rfl) ?_
          refine xget C hP o_MO rfl c_MO (k := 9) (v := .ref (b + 6)) (by decide) wg_886 rfl d_MO_look_162 ?_
          refine lv_iload_n C.1 C.2.1 d_MO_look_165 rfl (lv_at hl 2 rfl) ?_
          refine xiald C hP om_6 rfl (v := (st 6 a1.toNatClampNeg 0)) (vm_isDevice h1) (congrArg Value.int (xu_a (by decide))) d_MO_look_166 ?_
          exact xri C hlk hr hP hS d_MO_look_167 ⟨by rw [f_MO_look, if_neg h1, if_neg h2, if_pos h22, if_neg h23, if_neg h24, if_neg h26, if_neg h27, if_pos h28], by rw [f_MO_look, if_neg h1, if_neg h2, if_pos h22, if_neg h23, if_neg h24, if_neg h26, if_neg h27, if_pos h28]⟩
        by_cases h29 : a2 = 5
        · refine lv_tableIn (tgt := 168) (off := 102) C.1 C.2.1 d_MO_look_66 (by rw [h29]; decide) (by rw [h29]; decide) (by rw [h29]; rfl) (by decide) ?_
          refine lv_aload_n C.1 C.2.1 d_MO_look_168 rfl (lv_at hl 1 rfl) ?_
          refine lv_iload_n C.1 C.2.1 d_MO_look_169 rfl (lv_at hl 2 rfl) ?_
          refine xcVi (rest := []) C hml hl.1 (k_MO_isLoud l D cA b (xu st 0 0 0 0) a1 (vm_isDevice h1)) q_MO_isLoud rfl rfl wg_1246 wg_1248 ws_71 ⟨Nat.le_of_ble_eq_true rfl, Nat.le_of_ble_eq_true rfl⟩ hP hS o_MO rfl c_MO rfl (Nat.le_of_ble_eq_true rfl) d_MO_look_170 rfl (fun H locs hP hS => ?_)
          refine lv_if_eq (tgt := 180) C.1 C.2.1 d_MO_look_173 (by decide) (fun h30 => ?_) (fun h30 => ?_)
          · refine lv_iconst (v := 0) C.1 C.2.1 d_MO_look_180 (by decide) ?_
            exact xri C hlk hr hP hS d_MO_look_181 ⟨by rw [f_MO_look, if_neg h1, if_neg h2, if_pos h22, if_neg h23, if_neg h24, if_neg h26, if_neg h27, if_neg h28, if_pos h29, if_pos h30], by rw [f_MO_look, if_neg h1, if_neg h2, if_pos h22, if_neg h23, if_neg h24, if_neg h26, if_neg h27, if_neg h28, if_pos h29, if_pos h30]⟩
          · refine lv_iconst (v := 1) C.1 C.2.1 d_MO_look_176 (by decide) ?_
            refine lv_goto (tgt := 181) C.1 C.2.1 d_MO_look_177 (by decide) ?_
            exact xri C hlk hr hP hS d_MO_look_181 ⟨by rw [f_MO_look, if_neg h1, if_neg h2, if_pos h22, if_neg h23, if_neg h24, if_neg h26, if_neg h27, if_neg h28, if_pos h29, if_neg h30], by rw [f_MO_look, if_neg h1, if_neg h2, if_pos h22, if_neg h23, if_neg h24, if_neg h26, if_neg h27, if_neg h28, if_pos h29, if_neg h30]⟩
        by_cases h31 : a2 = 6
        · refine lv_tableIn (tgt := 182) (off := 116) C.1 C.2.1 d_MO_look_66 (by rw [h31]; decide) (by rw [h31]; decide) (by rw [h31]; rfl) (by decide) ?_
          refine lv_aload_n C.1 C.2.1 d_MO_look_182 rfl (lv_at hl 1 rfl) ?_
          refine xget C hP o_MO rfl c_MO (k := 11) (v := .ref (b + 8)) (by decide) wg_888 rfl d_MO_look_183 ?_
          refine lv_iload_n C.1 C.2.1 d_MO_look_186 rfl (lv_at hl 2 rfl) ?_
          refine xzald C hP om_8 rfl (v := (bz (st 8 a1.toNatClampNeg 0))) (vm_isDevice h1) (congrArg (fun z => Value.int (bz z)) (xu_a (by decide))) d_MO_look_187 ?_
          refine lv_if_eq (tgt := 200) C.1 C.2.1 d_MO_look_188 (by decide) (fun h32 => ?_) (fun h32 => ?_)
          · refine lv_iconst (v := (-1)) C.1 C.2.1 d_MO_look_200 (by decide) ?_
            exact xri C hlk hr hP hS d_MO_look_201 ⟨by rw [f_MO_look, if_neg h1, if_neg h2, if_pos h22, if_neg h23, if_neg h24, if_neg h26, if_neg h27, if_neg h28, if_neg h29, if_pos h31, if_pos h32], by rw [f_MO_look, if_neg h1, if_neg h2, if_pos h22, if_neg h23, if_neg h24, if_neg h26, if_neg h27, if_neg h28, if_neg h29, if_pos h31, if_pos h32]⟩
          · refine lv_aload_n C.1 C.2.1 d_MO_look_191 rfl (lv_at hl 1 rfl) ?_
            refine xget C hP o_MO rfl c_MO (k := 15) (v := .ref (b + 12)) (by decide) wg_892 rfl d_MO_look_192 ?_
            refine lv_iload_n C.1 C.2.1 d_MO_look_195 rfl (lv_at hl 2 rfl) ?_
            refine xiald C hP om_12 rfl (v := (st 12 a1.toNatClampNeg 0)) (vm_isDevice h1) (congrArg Value.int (xu_a (by decide))) d_MO_look_196 ?_
            refine lv_goto (tgt := 201) C.1 C.2.1 d_MO_look_197 (by decide) ?_
            exact xri C hlk hr hP hS d_MO_look_201 ⟨by rw [f_MO_look, if_neg h1, if_neg h2, if_pos h22, if_neg h23, if_neg h24, if_neg h26, if_neg h27, if_neg h28, if_neg h29, if_pos h31, if_neg h32], by rw [f_MO_look, if_neg h1, if_neg h2, if_pos h22, if_neg h23, if_neg h24, if_neg h26, if_neg h27, if_neg h28, if_neg h29, if_pos h31, if_neg h32]⟩
        by_cases h33 : a2 = 7
        · refine lv_tableIn (tgt := 202) (off := 136) C.1 C.2.1 d_MO_look_66 (by rw [h33]; decide) (by rw [h33]; decide) (by rw [h33]; rfl) (by decide) ?_
          refine lv_aload_n C.1 C.2.1 d_MO_look_202 rfl (lv_at hl 1 rfl) ?_
          refine lv_iload_n C.1 C.2.1 d_MO_look_203 rfl (lv_at hl 2 rfl) ?_
          refine xcVi (rest := []) C hml hl.1 (k_MO_isLeased l D cA b (xu st 0 0 0 0) a1 (vm_isDevice h1)) q_MO_isLeased rfl rfl wg_1226 wg_1228 ws_70 ⟨Nat.le_of_ble_eq_true rfl, Nat.le_of_ble_eq_true rfl⟩ hP hS o_MO rfl c_MO rfl (Nat.le_of_ble_eq_true rfl) d_MO_look_204 rfl (fun H locs hP hS => ?_)
          refine lv_if_eq (tgt := 219) C.1 C.2.1 d_MO_look_207 (by decide) (fun h34 => ?_) (fun h34 => ?_)
          · refine lv_iconst (v := (-1)) C.1 C.2.1 d_MO_look_219 (by decide) ?_
            exact xri C hlk hr hP hS d_MO_look_220 ⟨by rw [f_MO_look, if_neg h1, if_neg h2, if_pos h22, if_neg h23, if_neg h24, if_neg h26, if_neg h27, if_neg h28, if_neg h29, if_neg h31, if_pos h33, if_pos h34], by rw [f_MO_look, if_neg h1, if_neg h2, if_pos h22, if_neg h23, if_neg h24, if_neg h26, if_neg h27, if_neg h28, if_neg h29, if_neg h31, if_pos h33, if_pos h34]⟩
          · refine lv_aload_n C.1 C.2.1 d_MO_look_210 rfl (lv_at hl 1 rfl) ?_
            refine xget C hP o_MO rfl c_MO (k := 16) (v := .ref (b + 13)) (by decide) wg_893 rfl d_MO_look_211 ?_
            refine lv_iload_n C.1 C.2.1 d_MO_look_214 rfl (lv_at hl 2 rfl) ?_
            refine xiald C hP om_13 rfl (v := (st 13 a1.toNatClampNeg 0)) (vm_isDevice h1) (congrArg Value.int (xu_a (by decide))) d_MO_look_215 ?_
            refine lv_goto (tgt := 220) C.1 C.2.1 d_MO_look_216 (by decide) ?_
            exact xri C hlk hr hP hS d_MO_look_220 ⟨by rw [f_MO_look, if_neg h1, if_neg h2, if_pos h22, if_neg h23, if_neg h24, if_neg h26, if_neg h27, if_neg h28, if_neg h29, if_neg h31, if_pos h33, if_neg h34], by rw [f_MO_look, if_neg h1, if_neg h2, if_pos h22, if_neg h23, if_neg h24, if_neg h26, if_neg h27, if_neg h28, if_neg h29, if_neg h31, if_pos h33, if_neg h34]⟩
        by_cases h35 : a2 = 8
        · refine lv_tableIn (tgt := 221) (off := 155) C.1 C.2.1 d_MO_look_66 (by rw [h35]; decide) (by rw [h35]; decide) (by rw [h35]; rfl) (by decide) ?_
          refine lv_aload_n C.1 C.2.1 d_MO_look_221 rfl (lv_at hl 1 rfl) ?_
          refine xget C hP o_MO rfl c_MO (k := 10) (v := .ref (b + 7)) (by decide) wg_887 rfl d_MO_look_222 ?_
          refine lv_iload_n C.1 C.2.1 d_MO_look_225 rfl (lv_at hl 2 rfl) ?_
          refine xzald C hP om_7 rfl (v := (bz (st 7 a1.toNatClampNeg 0))) (vm_isDevice h1) (congrArg (fun z => Value.int (bz z)) (xu_a (by decide))) d_MO_look_226 ?_
          refine lv_if_eq (tgt := 234) C.1 C.2.1 d_MO_look_227 (by decide) (fun h36 => ?_) (fun h36 => ?_)
          · refine lv_iconst (v := 0) C.1 C.2.1 d_MO_look_234 (by decide) ?_
            exact xri C hlk hr hP hS d_MO_look_235 ⟨by rw [f_MO_look, if_neg h1, if_neg h2, if_pos h22, if_neg h23, if_neg h24, if_neg h26, if_neg h27, if_neg h28, if_neg h29, if_neg h31, if_neg h33, if_pos h35, if_pos h36], by rw [f_MO_look, if_neg h1, if_neg h2, if_pos h22, if_neg h23, if_neg h24, if_neg h26, if_neg h27, if_neg h28, if_neg h29, if_neg h31, if_neg h33, if_pos h35, if_pos h36]⟩
          · refine lv_iconst (v := 1) C.1 C.2.1 d_MO_look_230 (by decide) ?_
            refine lv_goto (tgt := 235) C.1 C.2.1 d_MO_look_231 (by decide) ?_
            exact xri C hlk hr hP hS d_MO_look_235 ⟨by rw [f_MO_look, if_neg h1, if_neg h2, if_pos h22, if_neg h23, if_neg h24, if_neg h26, if_neg h27, if_neg h28, if_neg h29, if_neg h31, if_neg h33, if_pos h35, if_neg h36], by rw [f_MO_look, if_neg h1, if_neg h2, if_pos h22, if_neg h23, if_neg h24, if_neg h26, if_neg h27, if_neg h28, if_neg h29, if_neg h31, if_neg h33, if_pos h35, if_neg h36]⟩
        by_cases h37 : a2 = 9
        · refine lv_tableIn (tgt := 236) (off := 170) C.1 C.2.1 d_MO_look_66 (by rw [h37]; decide) (by rw [h37]; decide) (by rw [h37]; rfl) (by decide) ?_
          refine lv_aload_n C.1 C.2.1 d_MO_look_236 rfl (lv_at hl 1 rfl) ?_
          refine xget C hP o_MO rfl c_MO (k := 11) (v := .ref (b + 8)) (by decide) wg_888 rfl d_MO_look_237 ?_
          refine lv_iload_n C.1 C.2.1 d_MO_look_240 rfl (lv_at hl 2 rfl) ?_
          refine xzald C hP om_8 rfl (v := (bz (st 8 a1.toNatClampNeg 0))) (vm_isDevice h1) (congrArg (fun z => Value.int (bz z)) (xu_a (by decide))) d_MO_look_241 ?_
          refine lv_if_eq (tgt := 249) C.1 C.2.1 d_MO_look_242 (by decide) (fun h38 => ?_) (fun h38 => ?_)
          · refine lv_iconst (v := 0) C.1 C.2.1 d_MO_look_249 (by decide) ?_
            exact xri C hlk hr hP hS d_MO_look_250 ⟨by rw [f_MO_look, if_neg h1, if_neg h2, if_pos h22, if_neg h23, if_neg h24, if_neg h26, if_neg h27, if_neg h28, if_neg h29, if_neg h31, if_neg h33, if_neg h35, if_pos h37, if_pos h38], by rw [f_MO_look, if_neg h1, if_neg h2, if_pos h22, if_neg h23, if_neg h24, if_neg h26, if_neg h27, if_neg h28, if_neg h29, if_neg h31, if_neg h33, if_neg h35, if_pos h37, if_pos h38]⟩
          · refine lv_iconst (v := 1) C.1 C.2.1 d_MO_look_245 (by decide) ?_
            refine lv_goto (tgt := 250) C.1 C.2.1 d_MO_look_246 (by decide) ?_
            exact xri C hlk hr hP hS d_MO_look_250 ⟨by rw [f_MO_look, if_neg h1, if_neg h2, if_pos h22, if_neg h23, if_neg h24, if_neg h26, if_neg h27, if_neg h28, if_neg h29, if_neg h31, if_neg h33, if_neg h35, if_pos h37, if_neg h38], by rw [f_MO_look, if_neg h1, if_neg h2, if_pos h22, if_neg h23, if_neg h24, if_neg h26, if_neg h27, if_neg h28, if_neg h29, if_neg h31, if_neg h33, if_neg h35, if_pos h37, if_neg h38]⟩
        refine lv_tableOut (tgt := 251) C.1 C.2.1 d_MO_look_66 (by have eh23 := lv_neT h23 (a := 0) (by decide); have eh24 := lv_neT h24 (a := 1) (by decide); have eh26 := lv_neT h26 (a := 2) (by decide); have eh27 := lv_neT h27 (a := 3) (by decide); have eh28 := lv_neT h28 (a := 4) (by decide); have eh29 := lv_neT h29 (a := 5) (by decide); have eh31 := lv_neT h31 (a := 6) (by decide); have eh33 := lv_neT h33 (a := 7) (by decide); have eh35 := lv_neT h35 (a := 8) (by decide); have eh37 := lv_neT h37 (a := 9) (by decide); omega) (by decide) ?_
        refine lv_aload_n C.1 C.2.1 d_MO_look_251 rfl (lv_at hl 1 rfl) ?_
        refine lv_iload_n C.1 C.2.1 d_MO_look_252 rfl (lv_at hl 2 rfl) ?_
        refine lv_iload_n C.1 C.2.1 d_MO_look_253 rfl (lv_at hl 3 rfl) ?_
        refine xcVi (rest := []) C hml hl.1 (k_MO_lookChannel l D cA b (xu st 0 0 0 0) a1 a2 (vm_isDevice h1) (no10 h2 h22 h23 h24 h26 h27 h28 h29 h31 h33 h35 h37).elim) q_MO_lookChannel rfl rfl wg_1250 wg_1252 ws_72 ⟨Nat.le_of_ble_eq_true rfl, Nat.le_of_ble_eq_true rfl⟩ hP hS o_MO rfl c_MO rfl (Nat.le_of_ble_eq_true rfl) d_MO_look_254 rfl (fun H locs hP hS => ?_)
        exact xri C hlk hr hP hS d_MO_look_257 ⟨by rw [f_MO_look, if_neg h1, if_neg h2, if_pos h22, if_neg h23, if_neg h24, if_neg h26, if_neg h27, if_neg h28, if_neg h29, if_neg h31, if_neg h33, if_neg h35, if_neg h37], by rw [f_MO_look, if_neg h1, if_neg h2, if_pos h22, if_neg h23, if_neg h24, if_neg h26, if_neg h27, if_neg h28, if_neg h29, if_neg h31, if_neg h33, if_neg h35, if_neg h37]⟩
      · refine lv_iload_n C.1 C.2.1 d_MO_look_17 rfl (lv_at hl 2 rfl) ?_
        refine lv_bipush (v := 10) C.1 C.2.1 d_MO_look_18 (by decide) ?_
        refine lv_icmp_lt (tgt := 44) C.1 C.2.1 d_MO_look_20 (by decide) (fun h => absurd h h22) (fun _ => ?_)
        refine lv_iload_n C.1 C.2.1 d_MO_look_23 rfl (lv_at hl 2 rfl) ?_
        refine lv_bipush (v := 42) C.1 C.2.1 d_MO_look_24 (by decide) ?_
        refine lv_icmp_ge (tgt := 44) C.1 C.2.1 d_MO_look_26 (by decide) (fun h39 => ?_) (fun h39 => ?_)
        · refine lv_iconst (v := 0) C.1 C.2.1 d_MO_look_44 (by decide) ?_
          refine lv_istore_n C.1 C.2.1 d_MO_look_45 rfl hl (by decide) rfl (fun ls hl => ?_)
          have hl : lv_has ls 4 [(3, .int 0), (0, .ref (b + 0)), (1, .int a1), (2, .int a2)] := hl
          refine lv_aload_n C.1 C.2.1 d_MO_look_46 rfl (lv_at hl 1 rfl) ?_
          refine lv_iload_n C.1 C.2.1 d_MO_look_47 rfl (lv_at hl 0 rfl) ?_
          refine lv_if_eq (tgt := 55) C.1 C.2.1 d_MO_look_48 (by decide) (fun _ => ?_) (fun h => absurd (by decide) h)
          refine lv_iconst (v := 1) C.1 C.2.1 d_MO_look_55 (by decide) ?_
          refine xput mw_inj C hP hS o_MO rfl c_MO (k := 0) (x := 1) (by decide) wg_877 rfl rfl rfl rfl d_MO_look_56 (fun H locs hP hS => ?_)
          refine lv_iload_n C.1 C.2.1 d_MO_look_59 rfl (lv_at hl 0 rfl) ?_
          refine lv_if_ne (tgt := 65) C.1 C.2.1 d_MO_look_60 (by decide) (fun h => absurd (by decide) h) (fun _ => ?_)
          refine lv_iconst (v := 0) C.1 C.2.1 d_MO_look_63 (by decide) ?_
          exact xri C hlk hr hP hS d_MO_look_64 ⟨by rw [f_MO_look, if_neg h1, if_neg h2, if_neg h22, if_pos h39], by rw [f_MO_look, if_neg h1, if_neg h2, if_neg h22, if_pos h39]⟩
        · refine lv_iload_n C.1 C.2.1 d_MO_look_29 rfl (lv_at hl 2 rfl) ?_
          refine lv_bipush (v := 10) C.1 C.2.1 d_MO_look_30 (by decide) ?_
          refine lv_isub C.1 C.2.1 d_MO_look_32 ?_
          refine lv_bipush (v := 8) C.1 C.2.1 d_MO_look_33 (by decide) ?_
          refine lv_irem C.1 C.2.1 d_MO_look_35 (by decide) ?_
          refine lv_iconst (v := 5) C.1 C.2.1 d_MO_look_36 (by decide) ?_
          refine lv_icmp_ge (tgt := 44) C.1 C.2.1 d_MO_look_37 (by decide) (fun h40 => ?_) (fun h40 => ?_)
          · refine lv_iconst (v := 0) C.1 C.2.1 d_MO_look_44 (by decide) ?_
            refine lv_istore_n C.1 C.2.1 d_MO_look_45 rfl hl (by decide) rfl (fun ls hl => ?_)
            have hl : lv_has ls 4 [(3, .int 0), (0, .ref (b + 0)), (1, .int a1), (2, .int a2)] := hl
            refine lv_aload_n C.1 C.2.1 d_MO_look_46 rfl (lv_at hl 1 rfl) ?_
            refine lv_iload_n C.1 C.2.1 d_MO_look_47 rfl (lv_at hl 0 rfl) ?_
            refine lv_if_eq (tgt := 55) C.1 C.2.1 d_MO_look_48 (by decide) (fun _ => ?_) (fun h => absurd (by decide) h)
            refine lv_iconst (v := 1) C.1 C.2.1 d_MO_look_55 (by decide) ?_
            refine xput mw_inj C hP hS o_MO rfl c_MO (k := 0) (x := 1) (by decide) wg_877 rfl rfl rfl rfl d_MO_look_56 (fun H locs hP hS => ?_)
            refine lv_iload_n C.1 C.2.1 d_MO_look_59 rfl (lv_at hl 0 rfl) ?_
            refine lv_if_ne (tgt := 65) C.1 C.2.1 d_MO_look_60 (by decide) (fun h => absurd (by decide) h) (fun _ => ?_)
            refine lv_iconst (v := 0) C.1 C.2.1 d_MO_look_63 (by decide) ?_
            exact xri C hlk hr hP hS d_MO_look_64 ⟨by rw [f_MO_look, if_neg h1, if_neg h2, if_neg h22, if_neg h39, if_pos h40], by rw [f_MO_look, if_neg h1, if_neg h2, if_neg h22, if_neg h39, if_pos h40]⟩
          · refine lv_iconst (v := 1) C.1 C.2.1 d_MO_look_40 (by decide) ?_
            refine lv_goto (tgt := 45) C.1 C.2.1 d_MO_look_41 (by decide) ?_
            refine lv_istore_n C.1 C.2.1 d_MO_look_45 rfl hl (by decide) rfl (fun ls hl => ?_)
            have hl : lv_has ls 4 [(3, .int 1), (0, .ref (b + 0)), (1, .int a1), (2, .int a2)] := hl
            refine lv_aload_n C.1 C.2.1 d_MO_look_46 rfl (lv_at hl 1 rfl) ?_
            refine lv_iload_n C.1 C.2.1 d_MO_look_47 rfl (lv_at hl 0 rfl) ?_
            refine lv_if_eq (tgt := 55) C.1 C.2.1 d_MO_look_48 (by decide) (fun h => absurd h (by decide)) (fun _ => ?_)
            refine lv_iconst (v := 0) C.1 C.2.1 d_MO_look_51 (by decide) ?_
            refine lv_goto (tgt := 56) C.1 C.2.1 d_MO_look_52 (by decide) ?_
            refine xput mw_inj C hP hS o_MO rfl c_MO (k := 0) (x := 0) (by decide) wg_877 rfl rfl rfl rfl d_MO_look_56 (fun H locs hP hS => ?_)
            refine lv_iload_n C.1 C.2.1 d_MO_look_59 rfl (lv_at hl 0 rfl) ?_
            refine lv_if_ne (tgt := 65) C.1 C.2.1 d_MO_look_60 (by decide) (fun _ => ?_) (fun h => absurd h (by decide))
            refine lv_iload_n C.1 C.2.1 d_MO_look_65 rfl (lv_at hl 3 rfl) ?_
            by_cases h41 : a2 = 0
            · refine lv_tableIn (tgt := 120) (off := 54) C.1 C.2.1 d_MO_look_66 (by rw [h41]; decide) (by rw [h41]; decide) (by rw [h41]; rfl) (by decide) ?_
              refine lv_aload_n C.1 C.2.1 d_MO_look_120 rfl (lv_at hl 1 rfl) ?_
              refine xget C hP o_MO rfl c_MO (k := 5) (v := .ref (b + 2)) (by decide) wg_882 rfl d_MO_look_121 ?_
              refine lv_iload_n C.1 C.2.1 d_MO_look_124 rfl (lv_at hl 2 rfl) ?_
              refine xiald C hP om_2 rfl (v := (st 2 a1.toNatClampNeg 0)) (vm_isDevice h1) (congrArg Value.int (xu_a (by decide))) d_MO_look_125 ?_
              exact xri C hlk hr hP hS d_MO_look_126 ⟨by rw [f_MO_look, if_neg h1, if_neg h2, if_neg h22, if_neg h39, if_neg h40, if_pos h41], by rw [f_MO_look, if_neg h1, if_neg h2, if_neg h22, if_neg h39, if_neg h40, if_pos h41]⟩
            by_cases h42 : a2 = 1
            · refine lv_tableIn (tgt := 127) (off := 61) C.1 C.2.1 d_MO_look_66 (by rw [h42]; decide) (by rw [h42]; decide) (by rw [h42]; rfl) (by decide) ?_
              refine lv_aload_n C.1 C.2.1 d_MO_look_127 rfl (lv_at hl 1 rfl) ?_
              refine xget C hP o_MO rfl c_MO (k := 5) (v := .ref (b + 2)) (by decide) wg_882 rfl d_MO_look_128 ?_
              refine lv_iload_n C.1 C.2.1 d_MO_look_131 rfl (lv_at hl 2 rfl) ?_
              refine xiald C hP om_2 rfl (v := (st 2 a1.toNatClampNeg 0)) (vm_isDevice h1) (congrArg Value.int (xu_a (by decide))) d_MO_look_132 ?_
              refine lv_if_ne (tgt := 140) C.1 C.2.1 d_MO_look_133 (by decide) (fun h43 => ?_) (fun h43 => ?_)
              · refine lv_aload_n C.1 C.2.1 d_MO_look_140 rfl (lv_at hl 1 rfl) ?_
                refine xget C hP o_MO rfl c_MO (k := 6) (v := .ref (b + 3)) (by decide) wg_883 rfl d_MO_look_141 ?_
                refine lv_iload_n C.1 C.2.1 d_MO_look_144 rfl (lv_at hl 2 rfl) ?_
                refine xiald C hP om_3 rfl (v := (st 3 a1.toNatClampNeg 0)) (vm_isDevice h1) (congrArg Value.int (xu_a (by decide))) d_MO_look_145 ?_
                exact xri C hlk hr hP hS d_MO_look_146 ⟨by rw [f_MO_look, if_neg h1, if_neg h2, if_neg h22, if_neg h39, if_neg h40, if_neg h41, if_pos h42, if_neg h43], by rw [f_MO_look, if_neg h1, if_neg h2, if_neg h22, if_neg h39, if_neg h40, if_neg h41, if_pos h42, if_neg h43]⟩
              · refine lv_iconst (v := (-1)) C.1 C.2.1 d_MO_look_136 (by decide) ?_
                refine lv_goto (tgt := 146) C.1 C.2.1 d_MO_look_137 (by decide) ?_
                exact xri C hlk hr hP hS d_MO_look_146 ⟨by rw [f_MO_look, if_neg h1, if_neg h2, if_neg h22, if_neg h39, if_neg h40, if_neg h41, if_pos h42, if_pos h43], by rw [f_MO_look, if_neg h1, if_neg h2, if_neg h22, if_neg h39, if_neg h40, if_neg h41, if_pos h42, if_pos h43]⟩
            by_cases h44 : a2 = 2
            · refine lv_tableIn (tgt := 147) (off := 81) C.1 C.2.1 d_MO_look_66 (by rw [h44]; decide) (by rw [h44]; decide) (by rw [h44]; rfl) (by decide) ?_
              refine lv_aload_n C.1 C.2.1 d_MO_look_147 rfl (lv_at hl 1 rfl) ?_
              refine xget C hP o_MO rfl c_MO (k := 7) (v := .ref (b + 4)) (by decide) wg_884 rfl d_MO_look_148 ?_
              refine lv_iload_n C.1 C.2.1 d_MO_look_151 rfl (lv_at hl 2 rfl) ?_
              refine xiald C hP om_4 rfl (v := (st 4 a1.toNatClampNeg 0)) (vm_isDevice h1) (congrArg Value.int (xu_a (by decide))) d_MO_look_152 ?_
              exact xri C hlk hr hP hS d_MO_look_153 ⟨by rw [f_MO_look, if_neg h1, if_neg h2, if_neg h22, if_neg h39, if_neg h40, if_neg h41, if_neg h42, if_pos h44], by rw [f_MO_look, if_neg h1, if_neg h2, if_neg h22, if_neg h39, if_neg h40, if_neg h41, if_neg h42, if_pos h44]⟩
            by_cases h45 : a2 = 3
            · refine lv_tableIn (tgt := 154) (off := 88) C.1 C.2.1 d_MO_look_66 (by rw [h45]; decide) (by rw [h45]; decide) (by rw [h45]; rfl) (by decide) ?_
              refine lv_aload_n C.1 C.2.1 d_MO_look_154 rfl (lv_at hl 1 rfl) ?_
              refine xget C hP o_MO rfl c_MO (k := 8) (v := .ref (b + 5)) (by decide) wg_885 rfl d_MO_look_155 ?_
              refine lv_iload_n C.1 C.2.1 d_MO_look_158 rfl (lv_at hl 2 rfl) ?_
              refine xiald C hP om_5 rfl (v := (st 5 a1.toNatClampNeg 0)) (vm_isDevice h1) (congrArg Value.int (xu_a (by decide))) d_MO_look_159 ?_
              exact xri C hlk hr hP hS d_MO_look_160 ⟨by rw [f_MO_look, if_neg h1, if_neg h2, if_neg h22, if_neg h39, if_neg h40, if_neg h41, if_neg h42, if_neg h44, if_pos h45], by rw [f_MO_look, if_neg h1, if_neg h2, if_neg h22, if_neg h39, if_neg h40, if_neg h41, if_neg h42, if_neg h44, if_pos h45]⟩
            by_cases h46 : a2 = 4
            · refine lv_tableIn (tgt := 161) (off := 95) C.1 C.2.1 d_MO_look_66 (by rw [h46]; decide) (by rw [h46]; decide) (by rw [h46]; rfl) (by decide) ?_
              refine lv_aload_n C.1 C.2.1 d_MO_look_161 rfl (lv_at hl 1 rfl) ?_
              refine xget C hP o_MO rfl c_MO (k := 9) (v := .ref (b + 6)) (by decide) wg_886 rfl d_MO_look_162 ?_
              refine lv_iload_n C.1 C.2.1 d_MO_look_165 rfl (lv_at hl 2 rfl) ?_
              refine xiald C hP om_6 rfl (v := (st 6 a1.toNatClampNeg 0)) (vm_isDevice h1) (congrArg Value.int (xu_a (by decide))) d_MO_look_166 ?_
              exact xri C hlk hr hP hS d_MO_look_167 ⟨by rw [f_MO_look, if_neg h1, if_neg h2, if_neg h22, if_neg h39, if_neg h40, if_neg h41, if_neg h42, if_neg h44, if_neg h45, if_pos h46], by rw [f_MO_look, if_neg h1, if_neg h2, if_neg h22, if_neg h39, if_neg h40, if_neg h41, if_neg h42, if_neg h44, if_neg h45, if_pos h46]⟩
            by_cases h47 : a2 = 5
            · refine lv_tableIn (tgt := 168) (off := 102) C.1 C.2.1 d_MO_look_66 (by rw [h47]; decide) (by rw [h47]; decide) (by rw [h47]; rfl) (by decide) ?_
              refine lv_aload_n C.1 C.2.1 d_MO_look_168 rfl (lv_at hl 1 rfl) ?_
              refine lv_iload_n C.1 C.2.1 d_MO_look_169 rfl (lv_at hl 2 rfl) ?_
              refine xcVi (rest := []) C hml hl.1 (k_MO_isLoud l D cA b (xu st 0 0 0 0) a1 (vm_isDevice h1)) q_MO_isLoud rfl rfl wg_1246 wg_1248 ws_71 ⟨Nat.le_of_ble_eq_true rfl, Nat.le_of_ble_eq_true rfl⟩ hP hS o_MO rfl c_MO rfl (Nat.le_of_ble_eq_true rfl) d_MO_look_170 rfl (fun H locs hP hS => ?_)
              refine lv_if_eq (tgt := 180) C.1 C.2.1 d_MO_look_173 (by decide) (fun h48 => ?_) (fun h48 => ?_)
              · refine lv_iconst (v := 0) C.1 C.2.1 d_MO_look_180 (by decide) ?_
                exact xri C hlk hr hP hS d_MO_look_181 ⟨by rw [f_MO_look, if_neg h1, if_neg h2, if_neg h22, if_neg h39, if_neg h40, if_neg h41, if_neg h42, if_neg h44, if_neg h45, if_neg h46, if_pos h47, if_pos h48], by rw [f_MO_look, if_neg h1, if_neg h2, if_neg h22, if_neg h39, if_neg h40, if_neg h41, if_neg h42, if_neg h44, if_neg h45, if_neg h46, if_pos h47, if_pos h48]⟩
              · refine lv_iconst (v := 1) C.1 C.2.1 d_MO_look_176 (by decide) ?_
                refine lv_goto (tgt := 181) C.1 C.2.1 d_MO_look_177 (by decide) ?_
                exact xri C hlk hr hP hS d_MO_look_181 ⟨by rw [f_MO_look, if_neg h1, if_neg h2, if_neg h22, if_neg h39, if_neg h40, if_neg h41, if_neg h42, if_neg h44, if_neg h45, if_neg h46, if_pos h47, if_neg h48], by rw [f_MO_look, if_neg h1, if_neg h2, if_neg h22, if_neg h39, if_neg h40, if_neg h41, if_neg h42, if_neg h44, if_neg h45, if_neg h46, if_pos h47, if_neg h48]⟩
            by_cases h49 : a2 = 6
            · refine lv_tableIn (tgt := 182) (off := 116) C.1 C.2.1 d_MO_look_66 (by rw [h49]; decide) (by rw [h49]; decide) (by rw [h49]; rfl) (by decide) ?_
              refine lv_aload_n C.1 C.2.1 d_MO_look_182 rfl (lv_at hl 1 rfl) ?_
              refine xget C hP o_MO rfl c_MO (k := 11) (v := .ref (b + 8)) (by decide) wg_888 rfl d_MO_look_183 ?_
              refine lv_iload_n C.1 C.2.1 d_MO_look_186 rfl (lv_at hl 2 rfl) ?_
              refine xzald C hP om_8 rfl (v := (bz (st 8 a1.toNatClampNeg 0))) (vm_isDevice h1) (congrArg (fun z => Value.int (bz z)) (xu_a (by decide))) d_MO_look_187 ?_
              refine lv_if_eq (tgt := 200) C.1 C.2.1 d_MO_look_188 (by decide) (fun h50 => ?_) (fun h50 => ?_)
              · refine lv_iconst (v := (-1)) C.1 C.2.1 d_MO_look_200 (by decide) ?_
                exact xri C hlk hr hP hS d_MO_look_201 ⟨by rw [f_MO_look, if_neg h1, if_neg h2, if_neg h22, if_neg h39, if_neg h40, if_neg h41, if_neg h42, if_neg h44, if_neg h45, if_neg h46, if_neg h47, if_pos h49, if_pos h50], by rw [f_MO_look, if_neg h1, if_neg h2, if_neg h22, if_neg h39, if_neg h40, if_neg h41, if_neg h42, if_neg h44, if_neg h45, if_neg h46, if_neg h47, if_pos h49, if_pos h50]⟩
              · refine lv_aload_n C.1 C.2.1 d_MO_look_191 rfl (lv_at hl 1 rfl) ?_
                refine xget C hP o_MO rfl c_MO (k := 15) (v := .ref (b + 12)) (by decide) wg_892 rfl d_MO_look_192 ?_
                refine lv_iload_n C.1 C.2.1 d_MO_look_195 rfl (lv_at hl 2 rfl) ?_
                refine xiald C hP om_12 rfl (v := (st 12 a1.toNatClampNeg 0)) (vm_isDevice h1) (congrArg Value.int (xu_a (by decide))) d_MO_look_196 ?_
                refine lv_goto (tgt := 201) C.1 C.2.1 d_MO_look_197 (by decide) ?_
                exact xri C hlk hr hP hS d_MO_look_201 ⟨by rw [f_MO_look, if_neg h1, if_neg h2, if_neg h22, if_neg h39, if_neg h40, if_neg h41, if_neg h42, if_neg h44, if_neg h45, if_neg h46, if_neg h47, if_pos h49, if_neg h50], by rw [f_MO_look, if_neg h1, if_neg h2, if_neg h22, if_neg h39, if_neg h40, if_neg h41, if_neg h42, if_neg h44, if_neg h45, if_neg h46, if_neg h47, if_pos h49, if_neg h50]⟩
            by_cases h51 : a2 = 7
            · refine lv_tableIn (tgt := 202) (off := 136) C.1 C.2.1 d_MO_look_66 (by rw [h51]; decide) (by rw [h51]; decide) (by rw [h51]; rfl) (by decide) ?_
              refine lv_aload_n C.1 C.2.1 d_MO_look_202 rfl (lv_at hl 1 rfl) ?_
              refine lv_iload_n C.1 C.2.1 d_MO_look_203 rfl (lv_at hl 2 rfl) ?_
              refine xcVi (rest := []) C hml hl.1 (k_MO_isLeased l D cA b (xu st 0 0 0 0) a1 (vm_isDevice h1)) q_MO_isLeased rfl rfl wg_1226 wg_1228 ws_70 ⟨Nat.le_of_ble_eq_true rfl, Nat.le_of_ble_eq_true rfl⟩ hP hS o_MO rfl c_MO rfl (Nat.le_of_ble_eq_true rfl) d_MO_look_204 rfl (fun H locs hP hS => ?_)
              refine lv_if_eq (tgt := 219) C.1 C.2.1 d_MO_look_207 (by decide) (fun h52 => ?_) (fun h52 => ?_)
              · refine lv_iconst (v := (-1)) C.1 C.2.1 d_MO_look_219 (by decide) ?_
                exact xri C hlk hr hP hS d_MO_look_220 ⟨by rw [f_MO_look, if_neg h1, if_neg h2, if_neg h22, if_neg h39, if_neg h40, if_neg h41, if_neg h42, if_neg h44, if_neg h45, if_neg h46, if_neg h47, if_neg h49, if_pos h51, if_pos h52], by rw [f_MO_look, if_neg h1, if_neg h2, if_neg h22, if_neg h39, if_neg h40, if_neg h41, if_neg h42, if_neg h44, if_neg h45, if_neg h46, if_neg h47, if_neg h49, if_pos h51, if_pos h52]⟩
              · refine lv_aload_n C.1 C.2.1 d_MO_look_210 rfl (lv_at hl 1 rfl) ?_
                refine xget C hP o_MO rfl c_MO (k := 16) (v := .ref (b + 13)) (by decide) wg_893 rfl d_MO_look_211 ?_
                refine lv_iload_n C.1 C.2.1 d_MO_look_214 rfl (lv_at hl 2 rfl) ?_
                refine xiald C hP om_13 rfl (v := (st 13 a1.toNatClampNeg 0)) (vm_isDevice h1) (congrArg Value.int (xu_a (by decide))) d_MO_look_215 ?_
                refine lv_goto (tgt := 220) C.1 C.2.1 d_MO_look_216 (by decide) ?_
                exact xri C hlk hr hP hS d_MO_look_220 ⟨by rw [f_MO_look, if_neg h1, if_neg h2, if_neg h22, if_neg h39, if_neg h40, if_neg h41, if_neg h42, if_neg h44, if_neg h45, if_neg h46, if_neg h47, if_neg h49, if_pos h51, if_neg h52], by rw [f_MO_look, if_neg h1, if_neg h2, if_neg h22, if_neg h39, if_neg h40, if_neg h41, if_neg h42, if_neg h44, if_neg h45, if_neg h46, if_neg h47, if_neg h49, if_pos h51, if_neg h52]⟩
            by_cases h53 : a2 = 8
            · refine lv_tableIn (tgt := 221) (off := 155) C.1 C.2.1 d_MO_look_66 (by rw [h53]; decide) (by rw [h53]; decide) (by rw [h53]; rfl) (by decide) ?_
              refine lv_aload_n C.1 C.2.1 d_MO_look_221 rfl (lv_at hl 1 rfl) ?_
              refine xget C hP o_MO rfl c_MO (k := 10) (v := .ref (b + 7)) (by decide) wg_887 rfl d_MO_look_222 ?_
              refine lv_iload_n C.1 C.2.1 d_MO_look_225 rfl (lv_at hl 2 rfl) ?_
              refine xzald C hP om_7 rfl (v := (bz (st 7 a1.toNatClampNeg 0))) (vm_isDevice h1) (congrArg (fun z => Value.int (bz z)) (xu_a (by decide))) d_MO_look_226 ?_
              refine lv_if_eq (tgt := 234) C.1 C.2.1 d_MO_look_227 (by decide) (fun h54 => ?_) (fun h54 => ?_)
              · refine lv_iconst (v := 0) C.1 C.2.1 d_MO_look_234 (by decide) ?_
                exact xri C hlk hr hP hS d_MO_look_235 ⟨by rw [f_MO_look, if_neg h1, if_neg h2, if_neg h22, if_neg h39, if_neg h40, if_neg h41, if_neg h42, if_neg h44, if_neg h45, if_neg h46, if_neg h47, if_neg h49, if_neg h51, if_pos h53, if_pos h54], by rw [f_MO_look, if_neg h1, if_neg h2, if_neg h22, if_neg h39, if_neg h40, if_neg h41, if_neg h42, if_neg h44, if_neg h45, if_neg h46, if_neg h47, if_neg h49, if_neg h51, if_pos h53, if_pos h54]⟩
              · refine lv_iconst (v := 1) C.1 C.2.1 d_MO_look_230 (by decide) ?_
                refine lv_goto (tgt := 235) C.1 C.2.1 d_MO_look_231 (by decide) ?_
                exact xri C hlk hr hP hS d_MO_look_235 ⟨by rw [f_MO_look, if_neg h1, if_neg h2, if_neg h22, if_neg h39, if_neg h40, if_neg h41, if_neg h42, if_neg h44, if_neg h45, if_neg h46, if_neg h47, if_neg h49, if_neg h51, if_pos h53, if_neg h54], by rw [f_MO_look, if_neg h1, if_neg h2, if_neg h22, if_neg h39, if_neg h40, if_neg h41, if_neg h42, if_neg h44, if_neg h45, if_neg h46, if_neg h47, if_neg h49, if_neg h51, if_pos h53, if_neg h54]⟩
            by_cases h55 : a2 = 9
            · refine lv_tableIn (tgt := 236) (off := 170) C.1 C.2.1 d_MO_look_66 (by rw [h55]; decide) (by rw [h55]; decide) (by rw [h55]; rfl) (by decide) ?_
              refine lv_aload_n C.1 C.2.1 d_MO_look_236 rfl (lv_at hl 1 rfl) ?_
              refine xget C hP o_MO rfl c_MO (k := 11) (v := .ref (b + 8)) (by decide) wg_888 rfl d_MO_look_237 ?_
              refine lv_iload_n C.1 C.2.1 d_MO_look_240 rfl (lv_at hl 2 rfl) ?_
              refine xzald C hP om_8 rfl (v := (bz (st 8 a1.toNatClampNeg 0))) (vm_isDevice h1) (congrArg (fun z => Value.int (bz z)) (xu_a (by decide))) d_MO_look_241 ?_
              refine lv_if_eq (tgt := 249) C.1 C.2.1 d_MO_look_242 (by decide) (fun h56 => ?_) (fun h56 => ?_)
              · refine lv_iconst (v := 0) C.1 C.2.1 d_MO_look_249 (by decide) ?_
                exact xri C hlk hr hP hS d_MO_look_250 ⟨by rw [f_MO_look, if_neg h1, if_neg h2, if_neg h22, if_neg h39, if_neg h40, if_neg h41, if_neg h42, if_neg h44, if_neg h45, if_neg h46, if_neg h47, if_neg h49, if_neg h51, if_neg h53, if_pos h55, if_pos h56], by rw [f_MO_look, if_neg h1, if_neg h2, if_neg h22, if_neg h39, if_neg h40, if_neg h41, if_neg h42, if_neg h44, if_neg h45, if_neg h46, if_neg h47, if_neg h49, if_neg h51, if_neg h53, if_pos h55, if_pos h56]⟩
              · refine lv_iconst (v := 1) C.1 C.2.1 d_MO_look_245 (by decide) ?_
                refine lv_goto (tgt := 250) C.1 C.2.1 d_MO_look_246 (by decide) ?_
                exact xri C hlk hr hP hS d_MO_look_250 ⟨by rw [f_MO_look, if_neg h1, if_neg h2, if_neg h22, if_neg h39, if_neg h40, if_neg h41, if_neg h42, if_neg h44, if_neg h45, if_neg h46, if_neg h47, if_neg h49, if_neg h51, if_neg h53, if_pos h55, if_neg h56], by rw [f_MO_look, if_neg h1, if_neg h2, if_neg h22, if_neg h39, if_neg h40, if_neg h41, if_neg h42, if_neg h44, if_neg h45, if_neg h46, if_neg h47, if_neg h49, if_neg h51, if_neg h53, if_pos h55, if_neg h56]⟩
            refine lv_tableOut (tgt := 251) C.1 C.2.1 d_MO_look_66 (by have eh41 := lv_neT h41 (a := 0) (by decide); have eh42 := lv_neT h42 (a := 1) (by decide); have eh44 := lv_neT h44 (a := 2) (by decide); have eh45 := lv_neT h45 (a := 3) (by decide); have eh46 := lv_neT h46 (a := 4) (by decide); have eh47 := lv_neT h47 (a := 5) (by decide); have eh49 := lv_neT h49 (a := 6) (by decide); have eh51 := lv_neT h51 (a := 7) (by decide); have eh53 := lv_neT h53 (a := 8) (by decide); have eh55 := lv_neT h55 (a := 9) (by decide); omega) (by decide) ?_
            refine lv_aload_n C.1 C.2.1 d_MO_look_251 rfl (lv_at hl 1 rfl) ?_
            refine lv_iload_n C.1 C.2.1 d_MO_look_252 rfl (lv_at hl 2 rfl) ?_
            refine lv_iload_n C.1 C.2.1 d_MO_look_253 rfl (lv_at hl 3 rfl) ?_
            refine xcVi (rest := []) C hml hl.1 (k_MO_lookChannel l D cA b (xu st 0 0 0 0) a1 a2 (vm_isDevice h1) (w42 h22 h39)) q_MO_lookChannel rfl rfl wg_1250 wg_1252 ws_72 ⟨Nat.le_of_ble_eq_true rfl, Nat.le_of_ble_eq_true rfl⟩ hP hS o_MO rfl c_MO rfl (Nat.le_of_ble_eq_true rfl) d_MO_look_254 rfl (fun H locs hP hS => ?_)
            exact xri C hlk hr hP hS d_MO_look_257 ⟨by rw [f_MO_look, if_neg h1, if_neg h2, if_neg h22, if_neg h39, if_neg h40, if_neg h41, if_neg h42, if_neg h44, if_neg h45, if_neg h46, if_neg h47, if_neg h49, if_neg h51, if_neg h53, if_neg h55], by rw [f_MO_look, if_neg h1, if_neg h2, if_neg h22, if_neg h39, if_neg h40, if_neg h41, if_neg h42, if_neg h44, if_neg h45, if_neg h46, if_neg h47, if_neg h49, if_neg h51, if_neg h53, if_neg h55]⟩
