def f_MO_send (st : XS) (a1 : Int32) (a2 : Int32) (a3 : Int32) (a4 : Int32) (a5 : Int32) : XS :=
  if 64 ≤ (st 0 39 0) then (xu (xu st 0 3 0 ((st 0 3 0) + 1)) 0 2 0 ((st 0 2 0) + 1))
  else (xu (xu (xu (xu (xu (xu (xu (xu (xu (xu st 36 ((st 0 39 0)).toNatClampNeg 0 (st 0 2 0)) 37 ((st 0 39 0)).toNatClampNeg 0 a1) 38 ((st 0 39 0)).toNatClampNeg 0 a2) 39 ((st 0 39 0)).toNatClampNeg 0 a3) 40 ((st 0 39 0)).toNatClampNeg 0 (st 4 a2.toNatClampNeg 0)) 41 ((st 0 39 0)).toNatClampNeg 0 a4) 42 ((st 0 39 0)).toNatClampNeg 0 a5) 43 ((st 0 39 0)).toNatClampNeg 0 (st 6 a2.toNatClampNeg 0)) 0 39 0 ((st 0 39 0) + 1)) 0 2 0 ((st 0 2 0) + 1))
set_option maxRecDepth 100000 in
set_option maxHeartbeats 4000000 in
theorem fr_MO_send {st : XS} {a1 : Int32} {a2 : Int32} {a3 : Int32} {a4 : Int32} {a5 : Int32} {a' k' i' : Nat} (h : (a', k') ∉ ([(0, 2), (0, 3), (0, 39)] : List (Nat × Nat))) (h2 : a' ∉ ([36, 37, 38, 39, 40, 41, 42, 43] : List Nat)) : (f_MO_send st a1 a2 a3 a4 a5) a' k' i' = st a' k' i' := by
  unfold f_MO_send
  repeat' split
  all_goals (try dsimp only)
  all_goals (repeat (first | with_reducible rfl | rw [xu_f (fun e => h (by rw [e]; decide))] | rw [xu_a (fun e => h2 (by rw [e]; decide))]))
set_option maxRecDepth 100000 in
set_option maxHeartbeats 4000000 in
theorem k_MO_send (l : Launch) (D : va_G) (cA : Nat → ClassId) (b : Nat) (st : XS) (a1 : Int32) (a2 : Int32) (a3 : Int32) (a4 : Int32) (a5 : Int32) (hq : qok st) (hd2 : vp_in a2 8) : xMv mw D cA b l y_MO_send (Cond.code y_MO_send b_MO_send 6 none) { frames := 0, cells := 0, slots := 0, locals := 0 } st [.ref (b + 0), .int a1, .int a2, .int a3, .int a4, .int a5] (f_MO_send st a1 a2 a3 a4 a5) := by
  refine xMv_of rfl (by decide) (Nat.le_of_ble_eq_true rfl) ?_
  intro p e s m below meth c ls C hlk hr hml hl hP hS
  have hl : lv_has ls 6 [(0, .ref (b + 0)), (1, .int a1), (2, .int a2), (3, .int a3), (4, .int a4), (5, .int a5)] := hl
  refine lv_aload_n C.1 C.2.1 d_MO_send_0 rfl (lv_at hl 0 rfl) ?_
  refine xget C hP o_MO rfl c_MO (k := 39) (v := .int (st 0 39 0)) (by decide) wg_916 rfl d_MO_send_1 ?_
  refine lv_bipush (v := 64) C.1 C.2.1 d_MO_send_4 (by decide) ?_
  refine lv_icmp_ge (tgt := 117) C.1 C.2.1 d_MO_send_6 (by decide) (fun h1 => ?_) (fun h1 => ?_)
  · refine lv_aload_n C.1 C.2.1 d_MO_send_117 rfl (lv_at hl 0 rfl) ?_
    refine lv_dup C.1 C.2.1 d_MO_send_118 rfl ?_
    refine xget C hP o_MO rfl c_MO (k := 3) (v := .int (st 0 3 0)) (by decide) wg_880 rfl d_MO_send_119 ?_
    refine lv_iconst (v := 1) C.1 C.2.1 d_MO_send_122 (by decide) ?_
    refine lv_iadd C.1 C.2.1 d_MO_send_123 ?_
    refine xput mw_inj C hP hS o_MO rfl c_MO (k := 3) (x := ((st 0 3 0) + 1)) (by decide) wg_880 rfl rfl rfl rfl d_MO_send_124 (fun H locs hP hS => ?_)
    refine lv_aload_n C.1 C.2.1 d_MO_send_127 rfl (lv_at hl 0 rfl) ?_
    refine lv_dup C.1 C.2.1 d_MO_send_128 rfl ?_
    refine xget C hP o_MO rfl c_MO (k := 2) (v := .int (st 0 2 0)) (by decide) wg_879 (congrArg Value.int (xu_f (by decide))) d_MO_send_129 ?_
    refine lv_iconst (v := 1) C.1 C.2.1 d_MO_send_132 (by decide) ?_
    refine lv_iadd C.1 C.2.1 d_MO_send_133 ?_
    refine xput mw_inj C hP hS o_MO rfl c_MO (k := 2) (x := ((st 0 2 0) + 1)) (by decide) wg_879 rfl rfl rfl rfl d_MO_send_134 (fun H locs hP hS => ?_)
    exact xrv C hlk hr hP hS d_MO_send_137 (by rw [f_MO_send, if_pos h1])
  · refine lv_aload_n C.1 C.2.1 d_MO_send_9 rfl (lv_at hl 0 rfl) ?_
    refine xget C hP o_MO rfl c_MO (k := 40) (v := .ref (b + 36)) (by decide) wg_917 rfl d_MO_send_10 ?_
    refine lv_aload_n C.1 C.2.1 d_MO_send_13 rfl (lv_at hl 0 rfl) ?_
    refine xget C hP o_MO rfl c_MO (k := 39) (v := .int (st 0 39 0)) (by decide) wg_916 rfl d_MO_send_14 ?_
    refine lv_aload_n C.1 C.2.1 d_MO_send_17 rfl (lv_at hl 0 rfl) ?_
    refine xget C hP o_MO rfl c_MO (k := 2) (v := .int (st 0 2 0)) (by decide) wg_879 rfl d_MO_send_18 ?_
    refine xiast mw_inj C hP hS om_36 rfl (qo_in hq h1) rfl d_MO_send_21 (fun H locs hP hS => ?_)
    refine lv_aload_n C.1 C.2.1 d_MO_send_22 rfl (lv_at hl 0 rfl) ?_
    refine xget C hP o_MO rfl c_MO (k := 41) (v := .ref (b + 37)) (by decide) wg_918 rfl d_MO_send_23 ?_
    refine lv_aload_n C.1 C.2.1 d_MO_send_26 rfl (lv_at hl 0 rfl) ?_
    refine xget C hP o_MO rfl c_MO (k := 39) (v := .int (st 0 39 0)) (by decide) wg_916 (congrArg Value.int (xu_a (by decide))) d_MO_send_27 ?_
    refine lv_iload_n C.1 C.2.1 d_MO_send_30 rfl (lv_at hl 1 rfl) ?_
    refine xiast mw_inj C hP hS om_37 rfl (qo_in hq h1) rfl d_MO_send_31 (fun H locs hP hS => ?_)
    refine lv_aload_n C.1 C.2.1 d_MO_send_32 rfl (lv_at hl 0 rfl) ?_
    refine xget C hP o_MO rfl c_MO (k := 42) (v := .ref (b + 38)) (by decide) wg_919 rfl d_MO_send_33 ?_
    refine lv_aload_n C.1 C.2.1 d_MO_send_36 rfl (lv_at hl 0 rfl) ?_
    refine xget C hP o_MO rfl c_MO (k := 39) (v := .int (st 0 39 0)) (by decide) wg_916 (congrArg Value.int (Eq.trans (xu_a (by decide)) (xu_a (by decide)))) d_MO_send_37 ?_
    refine lv_iload_n C.1 C.2.1 d_MO_send_40 rfl (lv_at hl 2 rfl) ?_
    refine xiast mw_inj C hP hS om_38 rfl (qo_in hq h1) rfl d_MO_send_41 (fun H locs hP hS => ?_)
    refine lv_aload_n C.1 C.2.1 d_MO_send_42 rfl (lv_at hl 0 rfl) ?_
    refine xget C hP o_MO rfl c_MO (k := 43) (v := .ref (b + 39)) (by decide) wg_920 rfl d_MO_send_43 ?_
    refine lv_aload_n C.1 C.2.1 d_MO_send_46 rfl (lv_at hl 0 rfl) ?_
    refine xget C hP o_MO rfl c_MO (k := 39) (v := .int (st 0 39 0)) (by decide) wg_916 (congrArg Value.int (Eq.trans (xu_a (by decide)) (Eq.trans (xu_a (by decide)) (xu_a (by decide))))) d_MO_send_47 ?_
    refine lv_iload_n C.1 C.2.1 d_MO_send_50 rfl (lv_at hl 3 rfl) ?_
    refine xiast mw_inj C hP hS om_39 rfl (qo_in hq h1) rfl d_MO_send_51 (fun H locs hP hS => ?_)
    refine lv_aload_n C.1 C.2.1 d_MO_send_52 rfl (lv_at hl 0 rfl) ?_
    refine xget C hP o_MO rfl c_MO (k := 44) (v := .ref (b + 40)) (by decide) wg_921 rfl d_MO_send_53 ?_
    refine lv_aload_n C.1 C.2.1 d_MO_send_56 rfl (lv_at hl 0 rfl) ?_
    refine xget C hP o_MO rfl c_MO (k := 39) (v := .int (st 0 39 0)) (by decide) wg_916 (congrArg Value.int (Eq.trans (xu_a (by decide)) (Eq.trans (xu_a (by decide)) (Eq.trans (xu_a (by decide)) (xu_a (by decide)))))) d_MO_send_57 ?_
    refine lv_aload_n C.1 C.2.1 d_MO_send_60 rfl (lv_at hl 0 rfl) ?_
    refine xget C hP o_MO rfl c_MO (k := 7) (v := .ref (b + 4)) (by decide) wg_884 rfl d_MO_send_61 ?_
    refine lv_iload_n C.1 C.2.1 d_MO_send_64 rfl (lv_at hl 2 rfl) ?_
    refine xiald C hP om_4 rfl (v := (st 4 a2.toNatClampNeg 0)) hd2 (congrArg Value.int (Eq.trans (xu_a (by decide)) (Eq.trans (xu_a (by decide)) (Eq.trans (xu_a (by decide)) (xu_a (by decide)))))) d_MO_send_65 ?_
    refine xiast mw_inj C hP hS om_40 rfl (qo_in hq h1) rfl d_MO_send_66 (fun H locs hP hS => ?_)
    refine lv_aload_n C.1 C.2.1 d_MO_send_67 rfl (lv_at hl 0 rfl) ?_
    refine xget C hP o_MO rfl c_MO (k := 45) (v := .ref (b + 41)) (by decide) wg_922 rfl d_MO_send_68 ?_
    refine lv_aload_n C.1 C.2.1 d_MO_send_71 rfl (lv_at hl 0 rfl) ?_
    refine xget C hP o_MO rfl c_MO (k := 39) (v := .int (st 0 39 0)) (by decide) wg_916 (congrArg Value.int (Eq.trans (xu_a (by decide)) (Eq.trans (xu_a (by decide)) (Eq.trans (xu_a (by decide)) (Eq.trans (xu_a (by decide)) (xu_a (by decide))))))) d_MO_send_72 ?_
    refine lv_iload C.1 C.2.1 d_MO_send_75 (lv_at hl 4 rfl) ?_
    refine xiast mw_inj C hP hS om_41 rfl (qo_in hq h1) rfl d_MO_send_77 (fun H locs hP hS => ?_)
    refine lv_aload_n C.1 C.2.1 d_MO_send_78 rfl (lv_at hl 0 rfl) ?_
    refine xget C hP o_MO rfl c_MO (k := 46) (v := .ref (b + 42)) (by decide) wg_923 rfl d_MO_send_79 ?_
    refine lv_aload_n C.1 C.2.1 d_MO_send_82 rfl (lv_at hl 0 rfl) ?_
    refine xget C hP o_MO rfl c_MO (k := 39) (v := .int (st 0 39 0)) (by decide) wg_916 (congrArg Value.int (Eq.trans (xu_a (by decide)) (Eq.trans (xu_a (by decide)) (Eq.trans (xu_a (by decide)) (Eq.trans (xu_a (by decide)) (Eq.trans (xu_a (by decide)) (xu_a (by decide)))))))) d_MO_send_83 ?_
    refine lv_iload C.1 C.2.1 d_MO_send_86 (lv_at hl 5 rfl) ?_
    refine xiast mw_inj C hP hS om_42 rfl (qo_in hq h1) rfl d_MO_send_88 (fun H locs hP hS => ?_)
    refine lv_aload_n C.1 C.2.1 d_MO_send_89 rfl (lv_at hl 0 rfl) ?_
    refine xget C hP o_MO rfl c_MO (k := 47) (v := .ref (b + 43)) (by decide) wg_924 rfl d_MO_send_90 ?_
    refine lv_aload_n C.1 C.2.1 d_MO_send_93 rfl (lv_at hl 0 rfl) ?_
    refine xget C hP o_MO rfl c_MO (k := 39) (v := .int (st 0 39 0)) (by decide) wg_916 (congrArg Value.int (Eq.trans (xu_a (by decide)) (Eq.trans (xu_a (by decide)) (Eq.trans (xu_a (by decide)) (Eq.trans (xu_a (by decide)) (Eq.trans (xu_a (by decide)) (Eq.trans (xu_a (by decide)) (xu_a (by decide))))))))) d_MO_send_94 ?_
    refine lv_aload_n C.1 C.2.1 d_MO_send_97 rfl (lv_at hl 0 rfl) ?_
    refine xget C hP o_MO rfl c_MO (k := 9) (v := .ref (b + 6)) (by decide) wg_886 rfl d_MO_send_98 ?_
    refine lv_iload_n C.1 C.2.1 d_MO_send_101 rfl (lv_at hl 2 rfl) ?_
    refine xiald C hP om_6 rfl (v := (st 6 a2.toNatClampNeg 0)) hd2 (congrArg Value.int (Eq.trans (xu_a (by decide)) (Eq.trans (xu_a (by decide)) (Eq.trans (xu_a (by decide)) (Eq.trans (xu_a (by decide)) (Eq.trans (xu_a (by decide)) (Eq.trans (xu_a (by decide)) (xu_a (by decide))))))))) d_MO_send_102 ?_
    refine xiast mw_inj C hP hS om_43 rfl (qo_in hq h1) rfl d_MO_send_103 (fun H locs hP hS => ?_)
    refine lv_aload_n C.1 C.2.1 d_MO_send_104 rfl (lv_at hl 0 rfl) ?_
    refine lv_dup C.1 C.2.1 d_MO_send_105 rfl ?_
    refine xget C hP o_MO rfl c_MO (k := 39) (v := .int (st 0 39 0)) (by decide) wg_916 (congrArg Value.int (Eq.trans (xu_a (by decide)) (Eq.trans (xu_a (by decide)) (Eq.trans (xu_a (by decide)) (Eq.trans (xu_a (by decide)) (Eq.trans (xu_a (by decide)) (Eq.trans (xu_a (by decide)) (Eq.trans (xu_a (by decide)) (xu_a (by decide)))))))))) d_MO_send_106 ?_
    refine lv_iconst (v := 1) C.1 C.2.1 d_MO_send_109 (by decide) ?_
    refine lv_iadd C.1 C.2.1 d_MO_send_110 ?_
    refine xput mw_inj C hP hS o_MO rfl c_MO (k := 39) (x := ((st 0 39 0) + 1)) (by decide) wg_916 rfl rfl rfl rfl d_MO_send_111 (fun H locs hP hS => ?_)
    refine lv_goto (tgt := 127) C.1 C.2.1 d_MO_send_114 (by decide) ?_
    refine lv_aload_n C.1 C.2.1 d_MO_send_127 rfl (lv_at hl 0 rfl) ?_
    refine lv_dup C.1 C.2.1 d_MO_send_128 rfl ?_
    refine xget C hP o_MO rfl c_MO (k := 2) (v := .int (st 0 2 0)) (by decide) wg_879 (congrArg Value.int (Eq.trans (xu_f (by decide)) (Eq.trans (xu_a (by decide)) (Eq.trans (xu_a (by decide)) (Eq.trans (xu_a (by decide)) (Eq.trans (xu_a (by decide)) (Eq.trans (xu_a (by decide)) (Eq.trans (xu_a (by decide)) (Eq.trans (xu_a (by decide)) (xu_a (by decide))))))))))) d_MO_send_129 ?_
    refine lv_iconst (v := 1) C.1 C.2.1 d_MO_send_132 (by decide) ?_
    refine lv_iadd C.1 C.2.1 d_MO_send_133 ?_
    refine xput mw_inj C hP hS o_MO rfl c_MO (k := 2) (x := ((st 0 2 0) + 1)) (by decide) wg_879 rfl rfl rfl rfl d_MO_send_134 (fun H locs hP hS => ?_)
    exact xrv C hlk hr hP hS d_MO_send_137 (by rw [f_MO_send, if_neg h1])
