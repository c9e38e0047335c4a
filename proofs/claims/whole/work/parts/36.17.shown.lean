def f_MO_shown (st : XS) (a1 : Int32) (a2 : Int32) : XS × Int32 :=
  if a1 < 0 then ((xu st 0 0 0 1), 0)
  else if (st 0 48 0) ≤ a1 then ((xu st 0 0 0 1), 0)
  else if a2 < 0 then ((xu st 0 0 0 1), 0)
  else if 4 ≤ a2 then ((xu st 0 0 0 1), 0)
  else if 2 ≤ a2 then (if a2 = 0 then ((xu st 0 0 0 0), (st 48 a1.toNatClampNeg 0))
    else if a2 = 1 then ((xu st 0 0 0 0), ((st 0 1 0) - (st 49 a1.toNatClampNeg 0)))
    else if a2 = 2 then ((xu st 0 0 0 0), ((st 44 a1.toNatClampNeg 0) / 4))
    else ((xu st 0 0 0 0), ((st 44 a1.toNatClampNeg 0) - (st 44 a1.toNatClampNeg 0) / 4 * 4)))
  else if (st 47 a1.toNatClampNeg 0) = (-1) then ((xu st 0 0 0 2), 0)
  else if ((st 0 1 0) - (st 50 a1.toNatClampNeg 0)) < 3000 then (if a2 = 0 then ((xu st 0 0 0 0), (st 48 a1.toNatClampNeg 0))
    else if a2 = 1 then ((xu st 0 0 0 0), ((st 0 1 0) - (st 49 a1.toNatClampNeg 0)))
    else if a2 = 2 then ((xu st 0 0 0 0), ((st 44 a1.toNatClampNeg 0) / 4))
    else ((xu st 0 0 0 0), ((st 44 a1.toNatClampNeg 0) - (st 44 a1.toNatClampNeg 0) / 4 * 4)))
  else ((xu st 0 0 0 2), 0)
set_option maxRecDepth 100000 in
set_option maxHeartbeats 4000000 in
theorem fr_MO_shown {st : XS} {a1 : Int32} {a2 : Int32} {a' k' i' : Nat} (h : (a', k') ∉ ([(0, 0)] : List (Nat × Nat))) (h2 : a' ∉ ([] : List Nat)) : (f_MO_shown st a1 a2).1 a' k' i' = st a' k' i' := by
  unfold f_MO_shown
  repeat' split
  all_goals (try dsimp only)
  all_goals (repeat (first | with_reducible rfl | rw [xu_f (fun e => h (by rw [e]; decide))]))
theorem p_MO_shown {st : XS} {a1 : Int32} {a2 : Int32} (h : qok st) : qok (f_MO_shown st a1 a2).1 := qok_of h (fr_MO_shown (by decide) (by decide))
set_option maxRecDepth 100000 in
set_option maxHeartbeats 4000000 in
theorem k_MO_shown (l : Launch) (D : va_G) (cA : Nat → ClassId) (b : Nat) (st : XS) (a1 : Int32) (a2 : Int32) (hh : 0 ≤ (st 0 48 0).toInt ∧ (st 0 48 0).toInt ≤ (16 : Nat)) : xMi mw D cA b l y_MO_shown (Cond.code y_MO_shown b_MO_shown 4 (some .int)) { frames := 0, cells := 0, slots := 0, locals := 0 } st [.ref (b + 0), .int a1, .int a2] (f_MO_shown st a1 a2).2 (f_MO_shown st a1 a2).1 := by
  refine xMi_of rfl (by decide) (Nat.le_of_ble_eq_true rfl) ?_
  intro p e s m below meth c ls C hlk hr hml hl hP hS
  have hl : lv_has ls 4 [(0, .ref (b + 0)), (1, .int a1), (2, .int a2)] := hl
  refine lv_iload_n C.1 C.2.1 d_MO_shown_0 rfl (lv_at hl 1 rfl) ?_
  refine lv_if_lt (tgt := 25) C.1 C.2.1 d_MO_shown_1 (by decide) (fun h1 => ?_) (fun h1 => ?_)
  · refine lv_iconst (v := 0) C.1 C.2.1 d_MO_shown_25 (by decide) ?_
    refine lv_istore_n C.1 C.2.1 d_MO_shown_26 rfl hl (by decide) rfl (fun ls hl => ?_)
    have hl : lv_has ls 4 [(3, .int 0), (0, .ref (b + 0)), (1, .int a1), (2, .int a2)] := hl
    refine lv_aload_n C.1 C.2.1 d_MO_shown_27 rfl (lv_at hl 1 rfl) ?_
    refine lv_iload_n C.1 C.2.1 d_MO_shown_28 rfl (lv_at hl 0 rfl) ?_
    refine lv_if_ne (tgt := 36) C.1 C.2.1 d_MO_shown_29 (by decide) (fun h => absurd (by decide) h) (fun _ => ?_)
    refine lv_iconst (v := 1) C.1 C.2.1 d_MO_shown_32 (by decide) ?_
    refine lv_goto (tgt := 73) C.1 C.2.1 d_MO_shown_33 (by decide) ?_
    refine xput mw_inj C hP hS o_MO rfl c_MO (k := 0) (x := 1) (by decide) wg_877 rfl rfl rfl rfl d_MO_shown_73 (fun H locs hP hS => ?_)
    refine lv_aload_n C.1 C.2.1 d_MO_shown_76 rfl (lv_at hl 1 rfl) ?_
    refine xget C hP o_MO rfl c_MO (k := 0) (v := .int 1) (by decide) wg_877 (congrArg Value.int xu_s) d_MO_shown_77 ?_
    refine lv_if_le (tgt := 85) C.1 C.2.1 d_MO_shown_80 (by decide) (fun h => absurd h (by decide)) (fun _ => ?_)
    refine lv_iconst (v := 0) C.1 C.2.1 d_MO_shown_83 (by decide) ?_
    exact xri C hlk hr hP hS d_MO_shown_84 ⟨by rw [f_MO_shown, if_pos h1], by rw [f_MO_shown, if_pos h1]⟩
  · refine lv_iload_n C.1 C.2.1 d_MO_shown_4 rfl (lv_at hl 1 rfl) ?_
    refine lv_aload_n C.1 C.2.1 d_MO_shown_5 rfl (lv_at hl 0 rfl) ?_
    refine xget C hP o_MO rfl c_MO (k := 48) (v := .int (st 0 48 0)) (by decide) wg_925 rfl d_MO_shown_6 ?_
    refine lv_icmp_ge (tgt := 25) C.1 C.2.1 d_MO_shown_9 (by decide) (fun h2 => ?_) (fun h2 => ?_)
    · refine lv_iconst (v := 0) C.1 C.2.1 d_MO_shown_25 (by decide) ?_
      refine lv_istore_n C.1 C.2.1 d_MO_shown_26 rfl hl (by decide) rfl (fun ls hl => ?_)
      have hl : lv_has ls 4 [(3, .int 0), (0, .ref (b + 0)), (1, .int a1), (2, .int a2)] := hl
      refine lv_aload_n C.1 C.2.1 d_MO_shown_27 rfl (lv_at hl 1 rfl) ?_
      refine lv_iload_n C.1 C.2.1 d_MO_shown_28 rfl (lv_at hl 0 rfl) ?_
      refine lv_if_ne (tgt := 36) C.1 C.2.1 d_MO_shown_29 (by decide) (fun h => absurd (by decide) h) (fun _ => ?_)
      refine lv_iconst (v := 1) C.1 C.2.1 d_MO_shown_32 (by decide) ?_
      refine lv_goto (tgt := 73) C.1 C.2.1 d_MO_shown_33 (by decide) ?_
      refine xput mw_inj C hP hS o_MO rfl c_MO (k := 0) (x := 1) (by decide) wg_877 rfl rfl rfl rfl d_MO_shown_73 (fun H locs hP hS => ?_)
      refine lv_aload_n C.1 C.2.1 d_MO_shown_76 rfl (lv_at hl 1 rfl) ?_
      refine xget C hP o_MO rfl c_MO (k := 0) (v := .int 1) (by decide) wg_877 (congrArg Value.int xu_s) d_MO_shown_77 ?_
      refine lv_if_le (tgt := 85) C.1 C.2.1 d_MO_shown_80 (by decide) (fun h => absurd h (by decide)) (fun _ => ?_)
      refine lv_iconst (v := 0) C.1 C.2.1 d_MO_shown_83 (by decide) ?_
      exact xri C hlk hr hP hS d_MO_shown_84 ⟨by rw [f_MO_shown, if_neg h1, if_pos h2], by rw [f_MO_shown, if_neg h1, if_pos h2]⟩
    · refine lv_iload_n C.1 C.2.1 d_MO_shown_12 rfl (lv_at hl 2 rfl) ?_
      refine lv_if_lt (tgt := 25) C.1 C.2.1 d_MO_shown_13 (by decide) (fun h3 => ?_) (fun h3 => ?_)
      · refine lv_iconst (v := 0) C.1 C.2.1 d_MO_shown_25 (by decide) ?_
        refine lv_istore_n C.1 C.2.1 d_MO_shown_26 rfl hl (by decide) rfl (fun ls hl => ?_)
        have hl : lv_has ls 4 [(3, .int 0), (0, .ref (b + 0)), (1, .int a1), (2, .int a2)] := hl
        refine lv_aload_n C.1 C.2.1 d_MO_shown_27 rfl (lv_at hl 1 rfl) ?_
        refine lv_iload_n C.1 C.2.1 d_MO_shown_28 rfl (lv_at hl 0 rfl) ?_
        refine lv_if_ne (tgt := 36) C.1 C.2.1 d_MO_shown_29 (by decide) (fun h => absurd (by decide) h) (fun _ => ?_)
        refine lv_iconst (v := 1) C.1 C.2.1 d_MO_shown_32 (by decide) ?_
        refine lv_goto (tgt := 73) C.1 C.2.1 d_MO_shown_33 (by decide) ?_
        refine xput mw_inj C hP hS o_MO rfl c_MO (k := 0) (x := 1) (by decide) wg_877 rfl rfl rfl rfl d_MO_shown_73 (fun H locs hP hS => ?_)
        refine lv_aload_n C.1 C.2.1 d_MO_shown_76 rfl (lv_at hl 1 rfl) ?_
        refine xget C hP o_MO rfl c_MO (k := 0) (v := .int 1) (by decide) wg_877 (congrArg Value.int xu_s) d_MO_shown_77 ?_
        refine lv_if_le (tgt := 85) C.1 C.2.1 d_MO_shown_80 (by decide) (fun h => absurd h (by decide)) (fun _ => ?_)
        refine lv_iconst (v := 0) C.1 C.2.1 d_MO_shown_83 (by decide) ?_
        exact xri C hlk hr hP hS d_MO_shown_84 ⟨by rw [f_MO_shown, if_neg h1, if_neg h2, if_pos h3], by rw [f_MO_shown, if_neg h1, if_neg h2, if_pos h3]⟩
      · refine lv_iload_n C.1 C.2.1 d_MO_shown_16 rfl (lv_at hl 2 rfl) ?_
        refine lv_iconst (v := 4) C.1 C.2.1 d_MO_shown_17 (by decide) ?_
        refine lv_icmp_ge (tgt := 25) C.1 C.2.1 d_MO_shown_18 (by decide) (fun h4 => ?_) (fun h4 => ?_)
        · refine lv_iconst (v := 0) C.1 C.2.1 d_MO_shown_25 (by decide) ?_
          refine lv_istore_n C.1 C.2.1 d_MO_shown_26 rfl hl (by decide) rfl (fun ls hl => ?_)
          have hl : lv_has ls 4 [(3, .int 0), (0, .ref (b + 0)), (1, .int a1), (2, .int a2)] := hl
          refine lv_aload_n C.1 C.2.1 d_MO_shown_27 rfl (lv_at hl 1 rfl) ?_
          refine lv_iload_n C.1 C.2.1 d_MO_shown_28 rfl (lv_at hl 0 rfl) ?_
          refine lv_if_ne (tgt := 36) C.1 C.2.1 d_MO_shown_29 (by decide) (fun h => absurd (by decide) h) (fun _ => ?_)
          refine lv_iconst (v := 1) C.1 C.2.1 d_MO_shown_32 (by decide) ?_
          refine lv_goto (tgt := 73) C.1 C.2.1 d_MO_shown_33 (by decide) ?_
          refine xput mw_inj C hP hS o_MO rfl c_MO (k := 0) (x := 1) (by decide) wg_877 rfl rfl rfl rfl d_MO_shown_73 (fun H locs hP hS => ?_)
          refine lv_aload_n C.1 C.2.1 d_MO_shown_76 rfl (lv_at hl 1 rfl) ?_
          refine xget C hP o_MO rfl c_MO (k := 0) (v := .int 1) (by decide) wg_877 (congrArg Value.int xu_s) d_MO_shown_77 ?_
          refine lv_if_le (tgt := 85) C.1 C.2.1 d_MO_shown_80 (by decide) (fun h => absurd h (by decide)) (fun _ => ?_)
          refine lv_iconst (v := 0) C.1 C.2.1 d_MO_shown_83 (by decide) ?_
          exact xri C hlk hr hP hS d_MO_shown_84 ⟨by rw [f_MO_shown, if_neg h1, if_neg h2, if_neg h3, if_pos h4], by rw [f_MO_shown, if_neg h1, if_neg h2, if_neg h3, if_pos h4]⟩
        · refine lv_iconst (v := 1) C.1 C.2.1 d_MO_shown_21 (by decide) ?_
          refine lv_goto (tgt := 26) C.1 C.2.1 d_MO_shown_22 (by decide) ?_
          refine lv_istore_n C.1 C.2.1 d_MO_shown_26 rfl hl (by decide) rfl (fun ls hl => ?_)
          have hl : lv_has ls 4 [(3, .int 1), (0, .ref (b + 0)), (1, .int a1), (2, .int a2)] := hl
          refine lv_aload_n C.1 C.2.1 d_MO_shown_27 rfl (lv_at hl 1 rfl) ?_
          refine lv_iload_n C.1 C.2.1 d_MO_shown_28 rfl (lv_at hl 0 rfl) ?_
          refine lv_if_ne (tgt := 36) C.1 C.2.1 d_MO_shown_29 (by decide) (fun _ => ?_) (fun h => absurd h (by decide))
          refine lv_iload_n C.1 C.2.1 d_MO_shown_36 rfl (lv_at hl 3 rfl) ?_
          refine lv_iconst (v := 2) C.1 C.2.1 d_MO_shown_37 (by decide) ?_
          refine lv_icmp_ge (tgt := 72) C.1 C.2.1 d_MO_shown_38 (by decide) (fun h5 => ?_) (fun h5 => ?_)
          · refine lv_iconst (v := 0) C.1 C.2.1 d_MO_shown_72 (by decide) ?_
            refine xput mw_inj C hP hS o_MO rfl c_MO (k := 0) (x := 0) (by decide) wg_877 rfl rfl rfl rfl d_MO_shown_73 (fun H locs hP hS => ?_)
            refine lv_aload_n C.1 C.2.1 d_MO_shown_76 rfl (lv_at hl 1 rfl) ?_
            refine xget C hP o_MO rfl c_MO (k := 0) (v := .int 0) (by decide) wg_877 (congrArg Value.int xu_s) d_MO_shown_77 ?_
            refine lv_if_le (tgt := 85) C.1 C.2.1 d_MO_shown_80 (by decide) (fun _ => ?_) (fun h => absurd (by decide) h)
            refine lv_iload_n C.1 C.2.1 d_MO_shown_85 rfl (lv_at hl 3 rfl) ?_
            refine lv_if_ne (tgt := 98) C.1 C.2.1 d_MO_shown_86 (by decide) (fun h6 => ?_) (fun h6 => ?_)
            · refine lv_iload_n C.1 C.2.1 d_MO_shown_98 rfl (lv_at hl 3 rfl) ?_
              refine lv_iconst (v := 1) C.1 C.2.1 d_MO_shown_99 (by decide) ?_
              refine lv_icmp_ne (tgt := 117) C.1 C.2.1 d_MO_shown_100 (by decide) (fun h7 => ?_) (fun h7 => ?_)
              · refine lv_iload_n C.1 C.2.1 d_MO_shown_117 rfl (lv_at hl 3 rfl) ?_
                refine lv_iconst (v := 2) C.1 C.2.1 d_MO_shown_118 (by decide) ?_
                refine lv_icmp_ne (tgt := 133) C.1 C.2.1 d_MO_shown_119 (by decide) (fun h8 => ?_) (fun h8 => ?_)
                · refine lv_aload_n C.1 C.2.1 d_MO_shown_133 rfl (lv_at hl 1 rfl) ?_
                  refine xget C hP o_MO rfl c_MO (k := 49) (v := .ref (b + 44)) (by decide) wg_926 rfl d_MO_shown_134 ?_
                  refine lv_iload_n C.1 C.2.1 d_MO_shown_137 rfl (lv_at hl 2 rfl) ?_
                  refine xiald C hP om_44 rfl (v := (st 44 a1.toNatClampNeg 0)) (sh_in h1 h2 hh.2) (congrArg Value.int (xu_a (by decide))) d_MO_shown_138 ?_
                  refine lv_iconst (v := 4) C.1 C.2.1 d_MO_shown_139 (by decide) ?_
                  refine lv_irem C.1 C.2.1 d_MO_shown_140 (by decide) ?_
                  exact xri C hlk hr hP hS d_MO_shown_141 ⟨by rw [f_MO_shown, if_neg h1, if_neg h2, if_neg h3, if_neg h4, if_pos h5, if_neg h6, if_neg h7, if_neg h8], by rw [f_MO_shown, if_neg h1, if_neg h2, if_neg h3, if_neg h4, if_pos h5, if_neg h6, if_neg h7, if_neg h8]⟩
                · refine lv_aload_n C.1 C.2.1 d_MO_shown_122 rfl (lv_at hl 1 rfl) ?_
                  refine xget C hP o_MO rfl c_MO (k := 49) (v := .ref (b + 44)) (by decide) wg_926 rfl d_MO_shown_123 ?_
                  refine lv_iload_n C.1 C.2.1 d_MO_shown_126 rfl (lv_at hl 2 rfl) ?_
                  refine xiald C hP om_44 rfl (v := (st 44 a1.toNatClampNeg 0)) (sh_in h1 h2 hh.2) (congrArg Value.int (xu_a (by decide))) d_MO_shown_127 ?_
                  refine lv_iconst (v := 4) C.1 C.2.1 d_MO_shown_128 (by decide) ?_
                  refine lv_idiv C.1 C.2.1 d_MO_shown_129 (by decide) ?_
                  refine lv_goto (tgt := 141) C.1 C.2.1 d_MO_shown_130 (by decide) ?_
                  exact xri C hlk hr hP hS d_MO_shown_141 ⟨by rw [f_MO_shown, if_neg h1, if_neg h2, if_neg h3, if_neg h4, if_pos h5, if_neg h6, if_neg h7, if_pos h8], by rw [f_MO_shown, if_neg h1, if_neg h2, if_neg h3, if_neg h4, if_pos h5, if_neg h6, if_neg h7, if_pos h8]⟩
              · refine lv_aload_n C.1 C.2.1 d_MO_shown_103 rfl (lv_at hl 1 rfl) ?_
                refine xget C hP o_MO rfl c_MO (k := 1) (v := .int (st 0 1 0)) (by decide) wg_878 (congrArg Value.int (xu_f (by decide))) d_MO_shown_104 ?_
                refine lv_aload_n C.1 C.2.1 d_MO_shown_107 rfl (lv_at hl 1 rfl) ?_
                refine xget C hP o_MO rfl c_MO (k := 54) (v := .ref (b + 49)) (by decide) wg_931 rfl d_MO_shown_108 ?_
                refine lv_iload_n C.1 C.2.1 d_MO_shown_111 rfl (lv_at hl 2 rfl) ?_
                refine xiald C hP om_49 rfl (v := (st 49 a1.toNatClampNeg 0)) (sh_in h1 h2 hh.2) (congrArg Value.int (xu_a (by decide))) d_MO_shown_112 ?_
                refine lv_isub C.1 C.2.1 d_MO_shown_113 ?_
                refine lv_goto (tgt := 141) C.1 C.2.1 d_MO_shown_114 (by decide) ?_
                exact xri C hlk hr hP hS d_MO_shown_141 ⟨by rw [f_MO_shown, if_neg h1, if_neg h2, if_neg h3, if_neg h4, if_pos h5, if_neg h6, if_pos h7], by rw [f_MO_shown, if_neg h1, if_neg h2, if_neg h3, if_neg h4, if_pos h5, if_neg h6, if_pos h7]⟩
            · refine lv_aload_n C.1 C.2.1 d_MO_shown_89 rfl (lv_at hl 1 rfl) ?_
              refine xget C hP o_MO rfl c_MO (k := 53) (v := .ref (b + 48)) (by decide) wg_930 rfl d_MO_shown_90 ?_
              refine lv_iload_n C.1 C.2.1 d_MO_shown_93 rfl (lv_at hl 2 rfl) ?_
              refine xiald C hP om_48 rfl (v := (st 48 a1.toNatClampNeg 0)) (sh_in h1 h2 hh.2) (congrArg Value.int (xu_a (by decide))) d_MO_shown_94 ?_
              refine lv_goto (tgt := 141) C.1 C.2.1 d_MO_shown_95 (by decide) ?_
              exact xri C hlk hr hP hS d_MO_shown_141 ⟨by rw [f_MO_shown, if_neg h1, if_neg h2, if_neg h3, if_neg h4, if_pos h5, if_pos h6], by rw [f_MO_shown, if_neg h1, if_neg h2, if_neg h3, if_neg h4, if_pos h5, if_pos h6]⟩
          · refine lv_aload_n C.1 C.2.1 d_MO_shown_41 rfl (lv_at hl 1 rfl) ?_
            refine xget C hP o_MO rfl c_MO (k := 52) (v := .ref (b + 47)) (by decide) wg_929 rfl d_MO_shown_42 ?_
            refine lv_iload_n C.1 C.2.1 d_MO_shown_45 rfl (lv_at hl 2 rfl) ?_
            refine xiald C hP om_47 rfl (v := (st 47 a1.toNatClampNeg 0)) (sh_in h1 h2 hh.2) rfl d_MO_shown_46 ?_
            refine lv_iconst (v := (-1)) C.1 C.2.1 d_MO_shown_47 (by decide) ?_
            refine lv_icmp_eq (tgt := 68) C.1 C.2.1 d_MO_shown_48 (by decide) (fun h9 => ?_) (fun h9 => ?_)
            · refine lv_iconst (v := 2) C.1 C.2.1 d_MO_shown_68 (by decide) ?_
              refine lv_goto (tgt := 73) C.1 C.2.1 d_MO_shown_69 (by decide) ?_
              refine xput mw_inj C hP hS o_MO rfl c_MO (k := 0) (x := 2) (by decide) wg_877 rfl rfl rfl rfl d_MO_shown_73 (fun H locs hP hS => ?_)
              refine lv_aload_n C.1 C.2.1 d_MO_shown_76 rfl (lv_at hl 1 rfl) ?_
              refine xget C hP o_MO rfl c_MO (k := 0) (v := .int 2) (by decide) wg_877 (congrArg Value.int xu_s) d_MO_shown_77 ?_
              refine lv_if_le (tgt := 85) C.1 C.2.1 d_MO_shown_80 (by decide) (fun h => absurd h (by decide)) (fun _ => ?_)
              refine lv_iconst (v := 0) C.1 C.2.1 d_MO_shown_83 (by decide) ?_
              exact xri C hlk hr hP hS d_MO_shown_84 ⟨by rw [f_MO_shown, if_neg h1, if_neg h2, if_neg h3, if_neg h4, if_neg h5, if_pos h9], by rw [f_MO_shown, if_neg h1, if_neg h2, if_neg h3, if_neg h4, if_neg h5, if_pos h9]⟩
            · refine lv_aload_n C.1 C.2.1 d_MO_shown_51 rfl (lv_at hl 1 rfl) ?_
              refine xget C hP o_MO rfl c_MO (k := 1) (v := .int (st 0 1 0)) (by decide) wg_878 rfl d_MO_shown_52 ?_
              refine lv_aload_n C.1 C.2.1 d_MO_shown_55 rfl (lv_at hl 1 rfl) ?_
              refine xget C hP o_MO rfl c_MO (k := 55) (v := .ref (b + 50)) (by decide) wg_932 rfl d_MO_shown_56 ?_
              refine lv_iload_n C.1 C.2.1 d_MO_shown_59 rfl (lv_at hl 2 rfl) ?_
              refine xiald C hP om_50 rfl (v := (st 50 a1.toNatClampNeg 0)) (sh_in h1 h2 hh.2) rfl d_MO_shown_60 ?_
              refine lv_isub C.1 C.2.1 d_MO_shown_61 ?_
              refine lv_sipush (v := 3000) C.1 C.2.1 d_MO_shown_62 (by decide) ?_
              refine lv_icmp_lt (tgt := 72) C.1 C.2.1 d_MO_shown_65 (by decide) (fun h10 => ?_) (fun h10 => ?_)
              · refine lv_iconst (v := 0) C.1 C.2.1 d_MO_shown_72 (by decide) ?_
                refine xput mw_inj C hP hS o_MO rfl c_MO (k := 0) (x := 0) (by decide) wg_877 rfl rfl rfl rfl d_MO_shown_73 (fun H locs hP hS => ?_)
                refine lv_aload_n C.1 C.2.1 d_MO_shown_76 rfl (lv_at hl 1 rfl) ?_
                refine xget C hP o_MO rfl c_MO (k := 0) (v := .int 0) (by decide) wg_877 (congrArg Value.int xu_s) d_MO_shown_77 ?_
                refine lv_if_le (tgt := 85) C.1 C.2.1 d_MO_shown_80 (by decide) (fun _ => ?_) (fun h => absurd (by decide) h)
                refine lv_iload_n C.1 C.2.1 d_MO_shown_85 rfl (lv_at hl 3 rfl) ?_
                refine lv_if_ne (tgt := 98) C.1 C.2.1 d_MO_shown_86 (by decide) (fun h11 => ?_) (fun h11 => ?_)
                · refine lv_iload_n C.1 C.2.1 d_MO_shown_98 rfl (lv_at hl 3 rfl) ?_
                  refine lv_iconst (v := 1) C.1 C.2.1 d_MO_shown_99 (by decide) ?_
                  refine lv_icmp_ne (tgt := 117) C.1 C.2.1 d_MO_shown_100 (by decide) (fun h12 => ?_) (fun h12 => ?_)
                  · refine lv_iload_n C.1 C.2.1 d_MO_shown_117 rfl (lv_at hl 3 rfl) ?_
                    refine lv_iconst (v := 2) C.1 C.2.1 d_MO_shown_118 (by decide) ?_
                    refine lv_icmp_ne (tgt := 133) C.1 C.2.1 d_MO_shown_119 (by decide) (fun h13 => ?_) (fun h13 => ?_)
                    · refine lv_aload_n C.1 C.2.1 d_MO_shown_133 rfl (lv_at hl 1 rfl) ?_
                      refine xget C hP o_MO rfl c_MO (k := 49) (v := .ref (b + 44)) (by decide) wg_926 rfl d_MO_shown_134 ?_
                      refine lv_iload_n C.1 C.2.1 d_MO_shown_137 rfl (lv_at hl 2 rfl) ?_
                      refine xiald C hP om_44 rfl (v := (st 44 a1.toNatClampNeg 0)) (sh_in h1 h2 hh.2) (congrArg Value.int (xu_a (by decide))) d_MO_shown_138 ?_
                      refine lv_iconst (v := 4) C.1 C.2.1 d_MO_shown_139 (by decide) ?_
                      refine lv_irem C.1 C.2.1 d_MO_shown_140 (by decide) ?_
                      exact xri C hlk hr hP hS d_MO_shown_141 ⟨by rw [f_MO_shown, if_neg h1, if_neg h2, if_neg h3, if_neg h4, if_neg h5, if_neg h9, if_pos h10, if_neg h11, if_neg h12, if_neg h13], by rw [f_MO_shown, if_neg h1, if_neg h2, if_neg h3, if_neg h4, if_neg h5, if_neg h9, if_pos h10, if_neg h11, if_neg h12, if_neg h13]⟩
                    · refine lv_aload_n C.1 C.2.1 d_MO_shown_122 rfl (lv_at hl 1 rfl) ?_
                      refine xget C hP o_MO rfl c_MO (k := 49) (v := .ref (b + 44)) (by decide) wg_926 rfl d_MO_shown_123 ?_
                      refine lv_iload_n C.1 C.2.1 d_MO_shown_126 rfl (lv_at hl 2 rfl) ?_
                      refine xiald C hP om_44 rfl (v := (st 44 a1.toNatClampNeg 0)) (sh_in h1 h2 hh.2) (congrArg Value.int (xu_a (by decide))) d_MO_shown_127 ?_
                      refine lv_iconst (v := 4) C.1 C.2.1 d_MO_shown_128 (by decide) ?_
                      refine lv_idiv C.1 C.2.1 d_MO_shown_129 (by decide) ?_
                      refine lv_goto (tgt := 141) C.1 C.2.1 d_MO_shown_130 (by decide) ?_
                      exact xri C hlk hr hP hS d_MO_shown_141 ⟨by rw [f_MO_shown, if_neg h1, if_neg h2, if_neg h3, if_neg h4, if_neg h5, if_neg h9, if_pos h10, if_neg h11, if_neg h12, if_pos h13], by rw [f_MO_shown, if_neg h1, if_neg h2, if_neg h3, if_neg h4, if_neg h5, if_neg h9, if_pos h10, if_neg h11, if_neg h12, if_pos h13]⟩
                  · refine lv_aload_n C.1 C.2.1 d_MO_shown_103 rfl (lv_at hl 1 rfl) ?_
                    refine xget C hP o_MO rfl c_MO (k := 1) (v := .int (st 0 1 0)) (by decide) wg_878 (congrArg Value.int (xu_f (by decide))) d_MO_shown_104 ?_
                    refine lv_aload_n C.1 C.2.1 d_MO_shown_107 rfl (lv_at hl 1 rfl) ?_
                    refine xget C hP o_MO rfl c_MO (k := 54) (v := .ref (b + 49)) (by decide) wg_931 rfl d_MO_shown_108 ?_
                    refine lv_iload_n C.1 C.2.1 d_MO_shown_111 rfl (lv_at hl 2 rfl) ?_
                    refine xiald C hP om_49 rfl (v := (st 49 a1.toNatClampNeg 0)) (sh_in h1 h2 hh.2) (congrArg Value.int (xu_a (by decide))) d_MO_shown_112 ?_
                    refine lv_isub C.1 C.2.1 d_MO_shown_113 ?_
                    refine lv_goto (tgt := 141) C.1 C.2.1 d_MO_shown_114 (by decide) ?_
                    exact xri C hlk hr hP hS d_MO_shown_141 ⟨by rw [f_MO_shown, if_neg h1, if_neg h2, if_neg h3, if_neg h4, if_neg h5, if_neg h9, if_pos h10, if_neg h11, if_pos h12], by rw [f_MO_shown, if_neg h1, if_neg h2, if_neg h3, if_neg h4, if_neg h5, if_neg h9, if_pos h10, if_neg h11, if_pos h12]⟩
                · refine lv_aload_n C.1 C.2.1 d_MO_shown_89 rfl (lv_at hl 1 rfl) ?_
                  refine xget C hP o_MO rfl c_MO (k := 53) (v := .ref (b + 48)) (by decide) wg_930 rfl d_MO_shown_90 ?_
                  refine lv_iload_n C.1 C.2.1 d_MO_shown_93 rfl (lv_at hl 2 rfl) ?_
                  refine xiald C hP om_48 rfl (v := (st 48 a1.toNatClampNeg 0)) (sh_in h1 h2 hh.2) (congrArg Value.int (xu_a (by decide))) d_MO_shown_94 ?_
                  refine lv_goto (tgt := 141) C.1 C.2.1 d_MO_shown_95 (by decide) ?_
                  exact xri C hlk hr hP hS d_MO_shown_141 ⟨by rw [f_MO_shown, if_neg h1, if_neg h2, if_neg h3, if_neg h4, if_neg h5, if_neg h9, if_pos h10, if_pos h11], by rw [f_MO_shown, if_neg h1, if_neg h2, if_neg h3, if_neg h4, if_neg h5, if_neg h9, if_pos h10, if_pos h11]⟩
              · refine lv_iconst (v := 2) C.1 C.2.1 d_MO_shown_68 (by decide) ?_
                refine lv_goto (tgt := 73) C.1 C.2.1 d_MO_shown_69 (by decide) ?_
                refine xput mw_inj C hP hS o_MO rfl c_MO (k := 0) (x := 2) (by decide) wg_877 rfl rfl rfl rfl d_MO_shown_73 (fun H locs hP hS => ?_)
                refine lv_aload_n C.1 C.2.1 d_MO_shown_76 rfl (lv_at hl 1 rfl) ?_
                refine xget C hP o_MO rfl c_MO (k := 0) (v := .int 2) (by decide) wg_877 (congrArg Value.int xu_s) d_MO_shown_77 ?_
                refine lv_if_le (tgt := 85) C.1 C.2.1 d_MO_shown_80 (by decide) (fun h => absurd h (by decide)) (fun _ => ?_)
                refine lv_iconst (v := 0) C.1 C.2.1 d_MO_shown_83 (by decide) ?_
                exact xri C hlk hr hP hS d_MO_shown_84 ⟨by rw [f_MO_shown, if_neg h1, if_neg h2, if_neg h3, if_neg h4, if_neg h5, if_neg h9, if_neg h10], by rw [f_MO_shown, if_neg h1, if_neg h2, if_neg h3, if_neg h4, if_neg h5, if_neg h9, if_neg h10]⟩
