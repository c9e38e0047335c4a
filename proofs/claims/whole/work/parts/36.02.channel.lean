def f_MO_channel (st : XS) (a1 : Int32) (a2 : Int32) (a3 : Int32) (a4 : Int32) (a5 : Int32) : XS × Int32 :=
  if (f_MO_isAt st a1 1) = 0 then ((xu st 0 0 0 1), 0)
  else if a2 < 0 then ((xu st 0 0 0 1), 0)
  else if 16 ≤ a2 then ((xu st 0 0 0 1), 0)
  else if (f_MO_isRange a3 a4 a5) = 0 then ((xu st 0 0 0 1), 0)
  else if (st 5 a1.toNatClampNeg 0) = 4 then ((xu st 0 0 0 2), 0)
  else ((xu (xu (xu (xu (xu (xu st 0 0 0 0) 16 (((4 * a1) + (st 5 a1.toNatClampNeg 0))).toNatClampNeg 0 a2) 17 (((4 * a1) + (st 5 a1.toNatClampNeg 0))).toNatClampNeg 0 a3) 18 (((4 * a1) + (st 5 a1.toNatClampNeg 0))).toNatClampNeg 0 a4) 19 (((4 * a1) + (st 5 a1.toNatClampNeg 0))).toNatClampNeg 0 a5) 5 a1.toNatClampNeg 0 ((st 5 a1.toNatClampNeg 0) + 1)), (((st 5 a1.toNatClampNeg 0) + 1) - 1))
set_option maxRecDepth 100000 in
set_option maxHeartbeats 4000000 in
theorem fr_MO_channel {st : XS} {a1 : Int32} {a2 : Int32} {a3 : Int32} {a4 : Int32} {a5 : Int32} {a' k' i' : Nat} (h : (a', k') ∉ ([(0, 0)] : List (Nat × Nat))) (h2 : a' ∉ ([5, 16, 17, 18, 19] : List Nat)) : (f_MO_channel st a1 a2 a3 a4 a5).1 a' k' i' = st a' k' i' := by
  unfold f_MO_channel
  repeat' split
  all_goals (try dsimp only)
  all_goals (repeat (first | with_reducible rfl | rw [xu_f (fun e => h (by rw [e]; decide))] | rw [xu_a (fun e => h2 (by rw [e]; decide))]))
theorem p_MO_channel {st : XS} {a1 : Int32} {a2 : Int32} {a3 : Int32} {a4 : Int32} {a5 : Int32} (h : qok st) : qok (f_MO_channel st a1 a2 a3 a4 a5).1 := qok_of h (fr_MO_channel (by decide) (by decide))
set_option maxRecDepth 100000 in
set_option maxHeartbeats 4000000 in
theorem k_MO_channel (l : Launch) (D : va_G) (cA : Nat → ClassId) (b : Nat) (st : XS) (a1 : Int32) (a2 : Int32) (a3 : Int32) (a4 : Int32) (a5 : Int32) (hc : cok st) : xMi mw D cA b l y_MO_channel (Cond.code y_MO_channel b_MO_channel 8 (some .int)) { frames := 2, cells := 0, slots := 0, locals := 42 } st [.ref (b + 0), .int a1, .int a2, .int a3, .int a4, .int a5] (f_MO_channel st a1 a2 a3 a4 a5).2 (f_MO_channel st a1 a2 a3 a4 a5).1 := by
  refine xMi_of rfl (by decide) (Nat.le_of_ble_eq_true rfl) ?_
  intro p e s m below meth c ls C hlk hr hml hl hP hS
  have hl : lv_has ls 8 [(0, .ref (b + 0)), (1, .int a1), (2, .int a2), (3, .int a3), (4, .int a4), (5, .int a5)] := hl
  refine lv_aload_n C.1 C.2.1 d_MO_channel_0 rfl (lv_at hl 0 rfl) ?_
  refine lv_iload_n C.1 C.2.1 d_MO_channel_1 rfl (lv_at hl 1 rfl) ?_
  refine lv_iconst (v := 1) C.1 C.2.1 d_MO_channel_2 (by decide) ?_
  refine xcVi (rest := []) C hml hl.1 (k_MO_isAt l D cA b st a1 1) q_MO_isAt rfl rfl wg_1083 wg_1085 ws_53 ⟨Nat.le_of_ble_eq_true rfl, Nat.le_of_ble_eq_true rfl⟩ hP hS o_MO rfl c_MO rfl (Nat.le_of_ble_eq_true rfl) d_MO_channel_3 rfl (fun H locs hP hS => ?_)
  refine lv_if_eq (tgt := 34) C.1 C.2.1 d_MO_channel_6 (by decide) (fun h1 => ?_) (fun h1 => ?_)
  · refine lv_iconst (v := 0) C.1 C.2.1 d_MO_channel_34 (by decide) ?_
    refine lv_istore C.1 C.2.1 d_MO_channel_35 hl (by decide) rfl (fun ls hl => ?_)
    have hl : lv_has ls 8 [(6, .int 0), (0, .ref (b + 0)), (1, .int a1), (2, .int a2), (3, .int a3), (4, .int a4), (5, .int a5)] := hl
    refine lv_aload_n C.1 C.2.1 d_MO_channel_37 rfl (lv_at hl 1 rfl) ?_
    refine lv_iload C.1 C.2.1 d_MO_channel_38 (lv_at hl 0 rfl) ?_
    refine lv_if_ne (tgt := 47) C.1 C.2.1 d_MO_channel_40 (by decide) (fun h => absurd (by decide) h) (fun _ => ?_)
    refine lv_iconst (v := 1) C.1 C.2.1 d_MO_channel_43 (by decide) ?_
    refine lv_goto (tgt := 62) C.1 C.2.1 d_MO_channel_44 (by decide) ?_
    refine xput mw_inj C hP hS o_MO rfl c_MO (k := 0) (x := 1) (by decide) wg_877 rfl rfl rfl rfl d_MO_channel_62 (fun H locs hP hS => ?_)
    refine lv_aload_n C.1 C.2.1 d_MO_channel_65 rfl (lv_at hl 1 rfl) ?_
    refine xget C hP o_MO rfl c_MO (k := 0) (v := .int 1) (by decide) wg_877 (congrArg Value.int xu_s) d_MO_channel_66 ?_
    refine lv_if_le (tgt := 74) C.1 C.2.1 d_MO_channel_69 (by decide) (fun h => absurd h (by decide)) (fun _ => ?_)
    refine lv_iconst (v := 0) C.1 C.2.1 d_MO_channel_72 (by decide) ?_
    exact xri C hlk hr hP hS d_MO_channel_73 ⟨by rw [f_MO_channel, if_pos h1], by rw [f_MO_channel, if_pos h1]⟩
  · refine lv_iload_n C.1 C.2.1 d_MO_channel_9 rfl (lv_at hl 2 rfl) ?_
    refine lv_if_lt (tgt := 34) C.1 C.2.1 d_MO_channel_10 (by decide) (fun h2 => ?_) (fun h2 => ?_)
    · refine lv_iconst (v := 0) C.1 C.2.1 d_MO_channel_34 (by decide) ?_
      refine lv_istore C.1 C.2.1 d_MO_channel_35 hl (by decide) rfl (fun ls hl => ?_)
      have hl : lv_has ls 8 [(6, .int 0), (0, .ref (b + 0)), (1, .int a1), (2, .int a2), (3, .int a3), (4, .int a4), (5, .int a5)] := hl
      refine lv_aload_n C.1 C.2.1 d_MO_channel_37 rfl (lv_at hl 1 rfl) ?_
      refine lv_iload C.1 C.2.1 d_MO_channel_38 (lv_at hl 0 rfl) ?_
      refine lv_if_ne (tgt := 47) C.1 C.2.1 d_MO_channel_40 (by decide) (fun h => absurd (by decide) h) (fun _ => ?_)
      refine lv_iconst (v := 1) C.1 C.2.1 d_MO_channel_43 (by decide) ?_
      refine lv_goto (tgt := 62) C.1 C.2.1 d_MO_channel_44 (by decide) ?_
      refine xput mw_inj C hP hS o_MO rfl c_MO (k := 0) (x := 1) (by decide) wg_877 rfl rfl rfl rfl d_MO_channel_62 (fun H locs hP hS => ?_)
      refine lv_aload_n C.1 C.2.1 d_MO_channel_65 rfl (lv_at hl 1 rfl) ?_
      refine xget C hP o_MO rfl c_MO (k := 0) (v := .int 1) (by decide) wg_877 (congrArg Value.int xu_s) d_MO_channel_66 ?_
      refine lv_if_le (tgt := 74) C.1 C.2.1 d_MO_channel_69 (by decide) (fun h => absurd h (by decide)) (fun _ => ?_)
      refine lv_iconst (v := 0) C.1 C.2.1 d_MO_channel_72 (by decide) ?_
      exact xri C hlk hr hP hS d_MO_channel_73 ⟨by rw [f_MO_channel, if_neg h1, if_pos h2], by rw [f_MO_channel, if_neg h1, if_pos h2]⟩
    · refine lv_iload_n C.1 C.2.1 d_MO_channel_13 rfl (lv_at hl 2 rfl) ?_
      refine lv_bipush (v := 16) C.1 C.2.1 d_MO_channel_14 (by decide) ?_
      refine lv_icmp_ge (tgt := 34) C.1 C.2.1 d_MO_channel_16 (by decide) (fun h3 => ?_) (fun h3 => ?_)
      · refine lv_iconst (v := 0) C.1 C.2.1 d_MO_channel_34 (by decide) ?_
        refine lv_istore C.1 C.2.1 d_MO_channel_35 hl (by decide) rfl (fun ls hl => ?_)
        have hl : lv_has ls 8 [(6, .int 0), (0, .ref (b + 0)), (1, .int a1), (2, .int a2), (3, .int a3), (4, .int a4), (5, .int a5)] := hl
        refine lv_aload_n C.1 C.2.1 d_MO_channel_37 rfl (lv_at hl 1 rfl) ?_
        refine lv_iload C.1 C.2.1 d_MO_channel_38 (lv_at hl 0 rfl) ?_
        refine lv_if_ne (tgt := 47) C.1 C.2.1 d_MO_channel_40 (by decide) (fun h => absurd (by decide) h) (fun _ => ?_)
        refine lv_iconst (v := 1) C.1 C.2.1 d_MO_channel_43 (by decide) ?_
        refine lv_goto (tgt := 62) C.1 C.2.1 d_MO_channel_44 (by decide) ?_
        refine xput mw_inj C hP hS o_MO rfl c_MO (k := 0) (x := 1) (by decide) wg_877 rfl rfl rfl rfl d_MO_channel_62 (fun H locs hP hS => ?_)
        refine lv_aload_n C.1 C.2.1 d_MO_channel_65 rfl (lv_at hl 1 rfl) ?_
        refine xget C hP o_MO rfl c_MO (k := 0) (v := .int 1) (by decide) wg_877 (congrArg Value.int xu_s) d_MO_channel_66 ?_
        refine lv_if_le (tgt := 74) C.1 C.2.1 d_MO_channel_69 (by decide) (fun h => absurd h (by decide)) (fun _ => ?_)
        refine lv_iconst (v := 0) C.1 C.2.1 d_MO_channel_72 (by decide) ?_
        exact xri C hlk hr hP hS d_MO_channel_73 ⟨by rw [f_MO_channel, if_neg h1, if_neg h2, if_pos h3], by rw [f_MO_channel, if_neg h1, if_neg h2, if_pos h3]⟩
      · refine lv_iload_n C.1 C.2.1 d_MO_channel_19 rfl (lv_at hl 3 rfl) ?_
        refine lv_iload C.1 C.2.1 d_MO_channel_20 (lv_at hl 4 rfl) ?_
        refine lv_iload C.1 C.2.1 d_MO_channel_22 (lv_at hl 5 rfl) ?_
        refine xcSi (rest := []) C hml hl.1 (k_MO_isRange l D cA b st a3 a4 a5) q_MO_isRange rfl rfl wg_1087 wg_1088 ⟨Nat.le_of_ble_eq_true rfl, Nat.le_of_ble_eq_true rfl⟩ hP hS rfl (Nat.le_of_ble_eq_true rfl) d_MO_channel_24 rfl (fun H locs hP hS => ?_)
        refine lv_if_eq (tgt := 34) C.1 C.2.1 d_MO_channel_27 (by decide) (fun h4 => ?_) (fun h4 => ?_)
        · refine lv_iconst (v := 0) C.1 C.2.1 d_MO_channel_34 (by decide) ?_
          refine lv_istore C.1 C.2.1 d_MO_channel_35 hl (by decide) rfl (fun ls hl => ?_)
          have hl : lv_has ls 8 [(6, .int 0), (0, .ref (b + 0)), (1, .int a1), (2, .int a2), (3, .int a3), (4, .int a4), (5, .int a5)] := hl
          refine lv_aload_n C.1 C.2.1 d_MO_channel_37 rfl (lv_at hl 1 rfl) ?_
          refine lv_iload C.1 C.2.1 d_MO_channel_38 (lv_at hl 0 rfl) ?_
          refine lv_if_ne (tgt := 47) C.1 C.2.1 d_MO_channel_40 (by decide) (fun h => absurd (by decide) h) (fun _ => ?_)
          refine lv_iconst (v := 1) C.1 C.2.1 d_MO_channel_43 (by decide) ?_
          refine lv_goto (tgt := 62) C.1 C.2.1 d_MO_channel_44 (by decide) ?_
          refine xput mw_inj C hP hS o_MO rfl c_MO (k := 0) (x := 1) (by decide) wg_877 rfl rfl rfl rfl d_MO_channel_62 (fun H locs hP hS => ?_)
          refine lv_aload_n C.1 C.2.1 d_MO_channel_65 rfl (lv_at hl 1 rfl) ?_
          refine xget C hP o_MO rfl c_MO (k := 0) (v := .int 1) (by decide) wg_877 (congrArg Value.int xu_s) d_MO_channel_66 ?_
          refine lv_if_le (tgt := 74) C.1 C.2.1 d_MO_channel_69 (by decide) (fun h => absurd h (by decide)) (fun _ => ?_)
          refine lv_iconst (v := 0) C.1 C.2.1 d_MO_channel_72 (by decide) ?_
          exact xri C hlk hr hP hS d_MO_channel_73 ⟨by rw [f_MO_channel, if_neg h1, if_neg h2, if_neg h3, if_pos h4], by rw [f_MO_channel, if_neg h1, if_neg h2, if_neg h3, if_pos h4]⟩
        · refine lv_iconst (v := 1) C.1 C.2.1 d_MO_channel_30 (by decide) ?_
          refine lv_goto (tgt := 35) C.1 C.2.1 d_MO_channel_31 (by decide) ?_
          refine lv_istore C.1 C.2.1 d_MO_channel_35 hl (by decide) rfl (fun ls hl => ?_)
          have hl : lv_has ls 8 [(6, .int 1), (0, .ref (b + 0)), (1, .int a1), (2, .int a2), (3, .int a3), (4, .int a4), (5, .int a5)] := hl
          refine lv_aload_n C.1 C.2.1 d_MO_channel_37 rfl (lv_at hl 1 rfl) ?_
          refine lv_iload C.1 C.2.1 d_MO_channel_38 (lv_at hl 0 rfl) ?_
          refine lv_if_ne (tgt := 47) C.1 C.2.1 d_MO_channel_40 (by decide) (fun _ => ?_) (fun h => absurd h (by decide))
          refine lv_aload_n C.1 C.2.1 d_MO_channel_47 rfl (lv_at hl 1 rfl) ?_
          refine xget C hP o_MO rfl c_MO (k := 8) (v := .ref (b + 5)) (by decide) wg_885 rfl d_MO_channel_48 ?_
          refine lv_iload_n C.1 C.2.1 d_MO_channel_51 rfl (lv_at hl 2 rfl) ?_
          refine xiald C hP om_5 rfl (v := (st 5 a1.toNatClampNeg 0)) (vm_isAt h1) rfl d_MO_channel_52 ?_
          refine lv_iconst (v := 4) C.1 C.2.1 d_MO_channel_53 (by decide) ?_
          refine lv_icmp_ne (tgt := 61) C.1 C.2.1 d_MO_channel_54 (by decide) (fun h5 => ?_) (fun h5 => ?_)
          · refine lv_iconst (v := 0) C.1 C.2.1 d_MO_channel_61 (by decide) ?_
            refine xput mw_inj C hP hS o_MO rfl c_MO (k := 0) (x := 0) (by decide) wg_877 rfl rfl rfl rfl d_MO_channel_62 (fun H locs hP hS => ?_)
            refine lv_aload_n C.1 C.2.1 d_MO_channel_65 rfl (lv_at hl 1 rfl) ?_
            refine xget C hP o_MO rfl c_MO (k := 0) (v := .int 0) (by decide) wg_877 (congrArg Value.int xu_s) d_MO_channel_66 ?_
            refine lv_if_le (tgt := 74) C.1 C.2.1 d_MO_channel_69 (by decide) (fun _ => ?_) (fun h => absurd (by decide) h)
            refine lv_iconst (v := 4) C.1 C.2.1 d_MO_channel_74 (by decide) ?_
            refine lv_iload_n C.1 C.2.1 d_MO_channel_75 rfl (lv_at hl 2 rfl) ?_
            refine lv_imul C.1 C.2.1 d_MO_channel_76 ?_
            refine lv_aload_n C.1 C.2.1 d_MO_channel_77 rfl (lv_at hl 1 rfl) ?_
            refine xget C hP o_MO rfl c_MO (k := 8) (v := .ref (b + 5)) (by decide) wg_885 rfl d_MO_channel_78 ?_
            refine lv_iload_n C.1 C.2.1 d_MO_channel_81 rfl (lv_at hl 2 rfl) ?_
            refine xiald C hP om_5 rfl (v := (st 5 a1.toNatClampNeg 0)) (vm_isAt h1) (congrArg Value.int (xu_a (by decide))) d_MO_channel_82 ?_
            refine lv_iadd C.1 C.2.1 d_MO_channel_83 ?_
            refine lv_istore C.1 C.2.1 d_MO_channel_84 hl (by decide) rfl (fun ls hl => ?_)
            have hl : lv_has ls 8 [(7, .int ((4 * a1) + (st 5 a1.toNatClampNeg 0))), (6, .int 1), (0, .ref (b + 0)), (1, .int a1), (2, .int a2), (3, .int a3), (4, .int a4), (5, .int a5)] := hl
            refine lv_aload_n C.1 C.2.1 d_MO_channel_86 rfl (lv_at hl 2 rfl) ?_
            refine xget C hP o_MO rfl c_MO (k := 19) (v := .ref (b + 16)) (by decide) wg_896 rfl d_MO_channel_87 ?_
            refine lv_iload C.1 C.2.1 d_MO_channel_90 (lv_at hl 0 rfl) ?_
            refine lv_iload_n C.1 C.2.1 d_MO_channel_92 rfl (lv_at hl 4 rfl) ?_
            refine xiast mw_inj C hP hS om_16 rfl (ix4 (vm_isAt h1) (ch_in (hc _ (xin_lt (vm_isAt h1))) h5)) rfl d_MO_channel_93 (fun H locs hP hS => ?_)
            refine lv_aload_n C.1 C.2.1 d_MO_channel_94 rfl (lv_at hl 2 rfl) ?_
            refine xget C hP o_MO rfl c_MO (k := 20) (v := .ref (b + 17)) (by decide) wg_897 rfl d_MO_channel_95 ?_
            refine lv_iload C.1 C.2.1 d_MO_channel_98 (lv_at hl 0 rfl) ?_
            refine lv_iload_n C.1 C.2.1 d_MO_channel_100 rfl (lv_at hl 5 rfl) ?_
            refine xiast mw_inj C hP hS om_17 rfl (ix4 (vm_isAt h1) (ch_in (hc _ (xin_lt (vm_isAt h1))) h5)) rfl d_MO_channel_101 (fun H locs hP hS => ?_)
            refine lv_aload_n C.1 C.2.1 d_MO_channel_102 rfl (lv_at hl 2 rfl) ?_
            refine xget C hP o_MO rfl c_MO (k := 21) (v := .ref (b + 18)) (by decide) wg_898 rfl d_MO_channel_103 ?_
            refine lv_iload C.1 C.2.1 d_MO_channel_106 (lv_at hl 0 rfl) ?_
            refine lv_iload C.1 C.2.1 d_MO_channel_108 (lv_at hl 6 rfl) ?_
            refine xiast mw_inj C hP hS om_18 rfl (ix4 (vm_isAt h1) (ch_in (hc _ (xin_lt (vm_isAt h1))) h5)) rfl d_MO_channel_110 (fun H locs hP hS => ?_)
            refine lv_aload_n C.1 C.2.1 d_MO_channel_111 rfl (lv_at hl 2 rfl) ?_
            refine xget C hP o_MO rfl c_MO (k := 22) (v := .ref (b + 19)) (by decide) wg_899 rfl d_MO_channel_112 ?_
            refine lv_iload C.1 C.2.1 d_MO_channel_115 (lv_at hl 0 rfl) ?_
            refine lv_iload C.1 C.2.1 d_MO_channel_117 (lv_at hl 7 rfl) ?_
            refine xiast mw_inj C hP hS om_19 rfl (ix4 (vm_isAt h1) (ch_in (hc _ (xin_lt (vm_isAt h1))) h5)) rfl d_MO_channel_119 (fun H locs hP hS => ?_)
            refine lv_aload_n C.1 C.2.1 d_MO_channel_120 rfl (lv_at hl 2 rfl) ?_
            refine xget C hP o_MO rfl c_MO (k := 8) (v := .ref (b + 5)) (by decide) wg_885 rfl d_MO_channel_121 ?_
            refine lv_iload_n C.1 C.2.1 d_MO_channel_124 rfl (lv_at hl 3 rfl) ?_
            refine lv_dup2_11 C.1 C.2.1 d_MO_channel_125 rfl rfl ?_
            refine xiald C hP om_5 rfl (v := (st 5 a1.toNatClampNeg 0)) (vm_isAt h1) (congrArg Value.int (Eq.trans (xu_a (by decide)) (Eq.trans (xu_a (by decide)) (Eq.trans (xu_a (by decide)) (Eq.trans (xu_a (by decide)) (xu_a (by decide))))))) d_MO_channel_126 ?_
            refine lv_iconst (v := 1) C.1 C.2.1 d_MO_channel_127 (by decide) ?_
            refine lv_iadd C.1 C.2.1 d_MO_channel_128 ?_
            refine xiast mw_inj C hP hS om_5 rfl (vm_isAt h1) rfl d_MO_channel_129 (fun H locs hP hS => ?_)
            refine lv_aload_n C.1 C.2.1 d_MO_channel_130 rfl (lv_at hl 2 rfl) ?_
            refine xget C hP o_MO rfl c_MO (k := 8) (v := .ref (b + 5)) (by decide) wg_885 rfl d_MO_channel_131 ?_
            refine lv_iload_n C.1 C.2.1 d_MO_channel_134 rfl (lv_at hl 3 rfl) ?_
            refine xiald C hP om_5 rfl (v := ((st 5 a1.toNatClampNeg 0) + 1)) (vm_isAt h1) (congrArg Value.int xu_s) d_MO_channel_135 ?_
            refine lv_iconst (v := 1) C.1 C.2.1 d_MO_channel_136 (by decide) ?_
            refine lv_isub C.1 C.2.1 d_MO_channel_137 ?_
            exact xri C hlk hr hP hS d_MO_channel_138 ⟨by rw [f_MO_channel, if_neg h1, if_neg h2, if_neg h3, if_neg h4, if_neg h5], by rw [f_MO_channel, if_neg h1, if_neg h2, if_neg h3, if_neg h4, if_neg h5]⟩
          · refine lv_iconst (v := 2) C.1 C.2.1 d_MO_channel_57 (by decide) ?_
            refine lv_goto (tgt := 62) C.1 C.2.1 d_MO_channel_58 (by decide) ?_
            refine xput mw_inj C hP hS o_MO rfl c_MO (k := 0) (x := 2) (by decide) wg_877 rfl rfl rfl rfl d_MO_channel_62 (fun H locs hP hS => ?_)
            refine lv_aload_n C.1 C.2.1 d_MO_channel_65 rfl (lv_at hl 1 rfl) ?_
            refine xget C hP o_MO rfl c_MO (k := 0) (v := .int 2) (by decide) wg_877 (congrArg Value.int xu_s) d_MO_channel_66 ?_
            refine lv_if_le (tgt := 74) C.1 C.2.1 d_MO_channel_69 (by decide) (fun h => absurd h (by decide)) (fun _ => ?_)
            refine lv_iconst (v := 0) C.1 C.2.1 d_MO_channel_72 (by decide) ?_
            exact xri C hlk hr hP hS d_MO_channel_73 ⟨by rw [f_MO_channel, if_neg h1, if_neg h2, if_neg h3, if_neg h4, if_pos h5], by rw [f_MO_channel, if_neg h1, if_neg h2, if_neg h3, if_neg h4, if_pos h5]⟩
