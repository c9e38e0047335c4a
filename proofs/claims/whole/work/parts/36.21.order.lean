def f_MO_order (st : XS) (a1 : Int32) (a2 : Int32) (a3 : Int32) (a4 : Int32) : XS × Int32 :=
  if (f_MO_isController a1) = 0 then ((xu st 0 0 0 1), 0)
  else if (f_MO_isAt st a2 2) = 0 then ((xu st 0 0 0 1), 0)
  else if (f_MO_isDevice a2) = 0 then (if (bz (st 8 (0 : Int32).toNatClampNeg 0)) = 0 then ((xu st 0 0 0 1), 0)
    else if (st 0 56 0) = 100 then ((xu st 0 0 0 2), 0)
    else ((f_MO_settle (f_MO_send (xu (xu (xu (xu (xu (xu st 0 0 0 0) 51 ((st 0 56 0)).toNatClampNeg 0 a1) 52 ((st 0 56 0)).toNatClampNeg 0 a3) 53 ((st 0 56 0)).toNatClampNeg 0 a4) 54 ((st 0 56 0)).toNatClampNeg 0 (-1)) 0 56 0 ((st 0 56 0) + 1)) 5 a2 (((st 0 56 0) + 1) - 1) 0 0)), (((st 0 56 0) + 1) - 1)))
  else if (bz (st 8 a2.toNatClampNeg 0)) = 0 then ((xu st 0 0 0 1), 0)
  else if (st 0 56 0) = 100 then ((xu st 0 0 0 2), 0)
  else ((f_MO_settle (f_MO_send (xu (xu (xu (xu (xu (xu st 0 0 0 0) 51 ((st 0 56 0)).toNatClampNeg 0 a1) 52 ((st 0 56 0)).toNatClampNeg 0 a3) 53 ((st 0 56 0)).toNatClampNeg 0 a4) 54 ((st 0 56 0)).toNatClampNeg 0 (-1)) 0 56 0 ((st 0 56 0) + 1)) 5 a2 (((st 0 56 0) + 1) - 1) 0 0)), (((st 0 56 0) + 1) - 1))
set_option maxRecDepth 100000 in
set_option maxHeartbeats 4000000 in
theorem fr_MO_order {st : XS} {a1 : Int32} {a2 : Int32} {a3 : Int32} {a4 : Int32} {a' k' i' : Nat} (h : (a', k') ∉ ([(0, 0), (0, 2), (0, 3), (0, 39), (0, 56)] : List (Nat × Nat))) (h2 : a' ∉ ([30, 31, 32, 36, 37, 38, 39, 40, 41, 42, 43, 51, 52, 53, 54] : List Nat)) : (f_MO_order st a1 a2 a3 a4).1 a' k' i' = st a' k' i' := by
  unfold f_MO_order
  repeat' split
  all_goals (try dsimp only)
  all_goals (repeat (first | with_reducible rfl | rw [xu_f (fun e => h (by rw [e]; decide))] | rw [xu_a (fun e => h2 (by rw [e]; decide))] | rw [fr_MO_send (fun q => h ((by decide : ∀ z ∈ ([(0, 2), (0, 3), (0, 39)] : List (Nat × Nat)), z ∈ ([(0, 0), (0, 2), (0, 3), (0, 39), (0, 56)] : List (Nat × Nat))) _ q)) (fun q => h2 ((by decide : ∀ z ∈ ([36, 37, 38, 39, 40, 41, 42, 43] : List Nat), z ∈ ([30, 31, 32, 36, 37, 38, 39, 40, 41, 42, 43, 51, 52, 53, 54] : List Nat)) _ q))] | rw [fr_MO_settle (fun q => h ((by decide : ∀ z ∈ ([(0, 2), (0, 3), (0, 39)] : List (Nat × Nat)), z ∈ ([(0, 0), (0, 2), (0, 3), (0, 39), (0, 56)] : List (Nat × Nat))) _ q)) (fun q => h2 ((by decide : ∀ z ∈ ([30, 31, 32, 36, 37, 38, 39, 40, 41, 42, 43] : List Nat), z ∈ ([30, 31, 32, 36, 37, 38, 39, 40, 41, 42, 43, 51, 52, 53, 54] : List Nat)) _ q))]))
theorem p_MO_order {st : XS} {a1 : Int32} {a2 : Int32} {a3 : Int32} {a4 : Int32} (h : qok st) : qok (f_MO_order st a1 a2 a3 a4).1 := by
  unfold f_MO_order
  repeat' split
  all_goals (try dsimp only)
  all_goals (repeat (first | with_reducible assumption | with_reducible refine p_MO_send ?_ | with_reducible refine p_MO_settle ?_ | with_reducible refine qok_xa ?_ (by decide) | with_reducible refine qok_xu ?_ ?_ | decide))
set_option maxRecDepth 100000 in
set_option maxHeartbeats 4000000 in
theorem k_MO_order (l : Launch) (D : va_G) (cA : Nat → ClassId) (b : Nat) (st : XS) (a1 : Int32) (a2 : Int32) (a3 : Int32) (a4 : Int32) (hq : qok st) (hc : cok st) (hoo : 0 ≤ (st 0 56 0).toInt ∧ (st 0 56 0).toInt ≤ (100 : Nat)) : xMi mw D cA b l y_MO_order (Cond.code y_MO_order b_MO_order 6 (some .int)) { frames := 3, cells := 0, slots := 0, locals := 65 } st [.ref (b + 0), .int a1, .int a2, .int a3, .int a4] (f_MO_order st a1 a2 a3 a4).2 (f_MO_order st a1 a2 a3 a4).1 := by
  refine xMi_of rfl (by decide) (Nat.le_of_ble_eq_true rfl) ?_
  intro p e s m below meth c ls C hlk hr hml hl hP hS
  have hl : lv_has ls 6 [(0, .ref (b + 0)), (1, .int a1), (2, .int a2), (3, .int a3), (4, .int a4)] := hl
  refine lv_iload_n C.1 C.2.1 d_MO_order_0 rfl (lv_at hl 1 rfl) ?_
  refine xcSi (rest := []) C hml hl.1 (k_MO_isController l D cA b st a1) q_MO_isController rfl rfl wg_1223 wg_1224 ⟨Nat.le_of_ble_eq_true rfl, Nat.le_of_ble_eq_true rfl⟩ hP hS rfl (Nat.le_of_ble_eq_true rfl) d_MO_order_1 rfl (fun H locs hP hS => ?_)
  refine lv_if_eq (tgt := 40) C.1 C.2.1 d_MO_order_4 (by decide) (fun h1 => ?_) (fun h1 => ?_)
  · refine lv_iconst (v := 0) C.1 C.2.1 d_MO_order_40 (by decide) ?_
    refine lv_istore C.1 C.2.1 d_MO_order_41 hl (by decide) rfl (fun ls hl => ?_)
    have hl : lv_has ls 6 [(5, .int 0), (0, .ref (b + 0)), (1, .int a1), (2, .int a2), (3, .int a3), (4, .int a4)] := hl
    refine lv_aload_n C.1 C.2.1 d_MO_order_43 rfl (lv_at hl 1 rfl) ?_
    refine lv_iload C.1 C.2.1 d_MO_order_44 (lv_at hl 0 rfl) ?_
    refine lv_if_ne (tgt := 53) C.1 C.2.1 d_MO_order_46 (by decide) (fun h => absurd (by decide) h) (fun _ => ?_)
    refine lv_iconst (v := 1) C.1 C.2.1 d_MO_order_49 (by decide) ?_
    refine lv_goto (tgt := 67) C.1 C.2.1 d_MO_order_50 (by decide) ?_
    refine xput mw_inj C hP hS o_MO rfl c_MO (k := 0) (x := 1) (by decide) wg_877 rfl rfl rfl rfl d_MO_order_67 (fun H locs hP hS => ?_)
    refine lv_aload_n C.1 C.2.1 d_MO_order_70 rfl (lv_at hl 1 rfl) ?_
    refine xget C hP o_MO rfl c_MO (k := 0) (v := .int 1) (by decide) wg_877 (congrArg Value.int xu_s) d_MO_order_71 ?_
    refine lv_if_le (tgt := 79) C.1 C.2.1 d_MO_order_74 (by decide) (fun h => absurd h (by decide)) (fun _ => ?_)
    refine lv_iconst (v := 0) C.1 C.2.1 d_MO_order_77 (by decide) ?_
    exact xri C hlk hr hP hS d_MO_order_78 ⟨by rw [f_MO_order, if_pos h1], by rw [f_MO_order, if_pos h1]⟩
  · refine lv_aload_n C.1 C.2.1 d_MO_order_7 rfl (lv_at hl 0 rfl) ?_
    refine lv_iload_n C.1 C.2.1 d_MO_order_8 rfl (lv_at hl 2 rfl) ?_
    refine lv_iconst (v := 2) C.1 C.2.1 d_MO_order_9 (by decide) ?_
    refine xcVi (rest := []) C hml hl.1 (k_MO_isAt l D cA b st a2 2) q_MO_isAt rfl rfl wg_1083 wg_1085 ws_53 ⟨Nat.le_of_ble_eq_true rfl, Nat.le_of_ble_eq_true rfl⟩ hP hS o_MO rfl c_MO rfl (Nat.le_of_ble_eq_true rfl) d_MO_order_10 rfl (fun H locs hP hS => ?_)
    refine lv_if_eq (tgt := 40) C.1 C.2.1 d_MO_order_13 (by decide) (fun h2 => ?_) (fun h2 => ?_)
    · refine lv_iconst (v := 0) C.1 C.2.1 d_MO_order_40 (by decide) ?_
      refine lv_istore C.1 C.2.1 d_MO_order_41 hl (by decide) rfl (fun ls hl => ?_)
      have hl : lv_has ls 6 [(5, .int 0), (0, .ref (b + 0)), (1, .int a1), (2, .int a2), (3, .int a3), (4, .int a4)] := hl
      refine lv_aload_n C.1 C.2.1 d_MO_order_43 rfl (lv_at hl 1 rfl) ?_
      refine lv_iload C.1 C.2.1 d_MO_order_44 (lv_at hl 0 rfl) ?_
      refine lv_if_ne (tgt := 53) C.1 C.2.1 d_MO_order_46 (by decide) (fun h => absurd (by decide) h) (fun _ => ?_)
      refine lv_iconst (v := 1) C.1 C.2.1 d_MO_order_49 (by decide) ?_
      refine lv_goto (tgt := 67) C.1 C.2.1 d_MO_order_50 (by decide) ?_
      refine xput mw_inj C hP hS o_MO rfl c_MO (k := 0) (x := 1) (by decide) wg_877 rfl rfl rfl rfl d_MO_order_67 (fun H locs hP hS => ?_)
      refine lv_aload_n C.1 C.2.1 d_MO_order_70 rfl (lv_at hl 1 rfl) ?_
      refine xget C hP o_MO rfl c_MO (k := 0) (v := .int 1) (by decide) wg_877 (congrArg Value.int xu_s) d_MO_order_71 ?_
      refine lv_if_le (tgt := 79) C.1 C.2.1 d_MO_order_74 (by decide) (fun h => absurd h (by decide)) (fun _ => ?_)
      refine lv_iconst (v := 0) C.1 C.2.1 d_MO_order_77 (by decide) ?_
      exact xri C hlk hr hP hS d_MO_order_78 ⟨by rw [f_MO_order, if_neg h1, if_pos h2], by rw [f_MO_order, if_neg h1, if_pos h2]⟩
    · refine lv_aload_n C.1 C.2.1 d_MO_order_16 rfl (lv_at hl 0 rfl) ?_
      refine xget C hP o_MO rfl c_MO (k := 11) (v := .ref (b + 8)) (by decide) wg_888 rfl d_MO_order_17 ?_
      refine lv_iload_n C.1 C.2.1 d_MO_order_20 rfl (lv_at hl 2 rfl) ?_
      refine xcSi (rest := [.ref (b + 8)]) C hml hl.1 (k_MO_isDevice l D cA b st a2) q_MO_isDevice rfl rfl wg_1073 wg_1074 ⟨Nat.le_of_ble_eq_true rfl, Nat.le_of_ble_eq_true rfl⟩ hP hS rfl (Nat.le_of_ble_eq_true rfl) d_MO_order_21 rfl (fun H locs hP hS => ?_)
      refine lv_if_eq (tgt := 31) C.1 C.2.1 d_MO_order_24 (by decide) (fun h3 => ?_) (fun h3 => ?_)
      · refine lv_iconst (v := 0) C.1 C.2.1 d_MO_order_31 (by decide) ?_
        refine xzald C hP om_8 rfl (v := (bz (st 8 (0 : Int32).toNatClampNeg 0))) (vp_in_iff.mpr (by decide)) rfl d_MO_order_32 ?_
        refine lv_if_eq (tgt := 40) C.1 C.2.1 d_MO_order_33 (by decide) (fun h4 => ?_) (fun h4 => ?_)
        · refine lv_iconst (v := 0) C.1 C.2.1 d_MO_order_40 (by decide) ?_
          refine lv_istore C.1 C.2.1 d_MO_order_41 hl (by decide) rfl (fun ls hl => ?_)
          have hl : lv_has ls 6 [(5, .int 0), (0, .ref (b + 0)), (1, .int a1), (2, .int a2), (3, .int a3), (4, .int a4)] := hl
          refine lv_aload_n C.1 C.2.1 d_MO_order_43 rfl (lv_at hl 1 rfl) ?_
          refine lv_iload C.1 C.2.1 d_MO_order_44 (lv_at hl 0 rfl) ?_
          refine lv_if_ne (tgt := 53) C.1 C.2.1 d_MO_order_46 (by decide) (fun h => absurd (by decide) h) (fun _ => ?_)
          refine lv_iconst (v := 1) C.1 C.2.1 d_MO_order_49 (by decide) ?_
          refine lv_goto (tgt := 67) C.1 C.2.1 d_MO_order_50 (by decide) ?_
          refine xput mw_inj C hP hS o_MO rfl c_MO (k := 0) (x := 1) (by decide) wg_877 rfl rfl rfl rfl d_MO_order_67 (fun H locs hP hS => ?_)
          refine lv_aload_n C.1 C.2.1 d_MO_order_70 rfl (lv_at hl 1 rfl) ?_
          refine xget C hP o_MO rfl c_MO (k := 0) (v := .int 1) (by decide) wg_877 (congrArg Value.int xu_s) d_MO_order_71 ?_
          refine lv_if_le (tgt := 79) C.1 C.2.1 d_MO_order_74 (by decide) (fun h => absurd h (by decide)) (fun _ => ?_)
          refine lv_iconst (v := 0) C.1 C.2.1 d_MO_order_77 (by decide) ?_
          exact xri C hlk hr hP hS d_MO_order_78 ⟨by rw [f_MO_order, if_neg h1, if_neg h2, if_pos h3, if_pos h4], by rw [f_MO_order, if_neg h1, if_neg h2, if_pos h3, if_pos h4]⟩
        · refine lv_iconst (v := 1) C.1 C.2.1 d_MO_order_36 (by decide) ?_
          refine lv_goto (tgt := 41) C.1 C.2.1 d_MO_order_37 (by decide) ?_
          refine lv_istore C.1 C.2.1 d_MO_order_41 hl (by decide) rfl (fun ls hl => ?_)
          have hl : lv_has ls 6 [(5, .int 1), (0, .ref (b + 0)), (1, .int a1), (2, .int a2), (3, .int a3), (4, .int a4)] := hl
          refine lv_aload_n C.1 C.2.1 d_MO_order_43 rfl (lv_at hl 1 rfl) ?_
          refine lv_iload C.1 C.2.1 d_MO_order_44 (lv_at hl 0 rfl) ?_
          refine lv_if_ne (tgt := 53) C.1 C.2.1 d_MO_order_46 (by decide) (fun _ => ?_) (fun h => absurd h (by decide))
          refine lv_aload_n C.1 C.2.1 d_MO_order_53 rfl (lv_at hl 1 rfl) ?_
          refine xget C hP o_MO rfl c_MO (k := 56) (v := .int (st 0 56 0)) (by decide) wg_933 rfl d_MO_order_54 ?_
          refine lv_bipush (v := 100) C.1 C.2.1 d_MO_order_57 (by decide) ?_
          refine lv_icmp_ne (tgt := 66) C.1 C.2.1 d_MO_order_59 (by decide) (fun h5 => ?_) (fun h5 => ?_)
          · refine lv_iconst (v := 0) C.1 C.2.1 d_MO_order_66 (by decide) ?_
            refine xput mw_inj C hP hS o_MO rfl c_MO (k := 0) (x := 0) (by decide) wg_877 rfl rfl rfl rfl d_MO_order_67 (fun H locs hP hS => ?_)
            refine lv_aload_n C.1 C.2.1 d_MO_order_70 rfl (lv_at hl 1 rfl) ?_
            refine xget C hP o_MO rfl c_MO (k := 0) (v := .int 0) (by decide) wg_877 (congrArg Value.int xu_s) d_MO_order_71 ?_
            refine lv_if_le (tgt := 79) C.1 C.2.1 d_MO_order_74 (by decide) (fun _ => ?_) (fun h => absurd (by decide) h)
            refine lv_aload_n C.1 C.2.1 d_MO_order_79 rfl (lv_at hl 1 rfl) ?_
            refine xget C hP o_MO rfl c_MO (k := 57) (v := .ref (b + 51)) (by decide) wg_934 rfl d_MO_order_80 ?_
            refine lv_aload_n C.1 C.2.1 d_MO_order_83 rfl (lv_at hl 1 rfl) ?_
            refine xget C hP o_MO rfl c_MO (k := 56) (v := .int (st 0 56 0)) (by decide) wg_933 (congrArg Value.int (xu_f (by decide))) d_MO_order_84 ?_
            refine lv_iload_n C.1 C.2.1 d_MO_order_87 rfl (lv_at hl 2 rfl) ?_
            refine xiast mw_inj C hP hS om_51 rfl (on_in hoo h5) rfl d_MO_order_88 (fun H locs hP hS => ?_)
            refine lv_aload_n C.1 C.2.1 d_MO_order_89 rfl (lv_at hl 1 rfl) ?_
            refine xget C hP o_MO rfl c_MO (k := 58) (v := .ref (b + 52)) (by decide) wg_935 rfl d_MO_order_90 ?_
            refine lv_aload_n C.1 C.2.1 d_MO_order_93 rfl (lv_at hl 1 rfl) ?_
            refine xget C hP o_MO rfl c_MO (k := 56) (v := .int (st 0 56 0)) (by decide) wg_933 (congrArg Value.int (Eq.trans (xu_a (by decide)) (xu_f (by decide)))) d_MO_order_94 ?_
            refine lv_iload_n C.1 C.2.1 d_MO_order_97 rfl (lv_at hl 4 rfl) ?_
            refine xiast mw_inj C hP hS om_52 rfl (on_in hoo h5) rfl d_MO_order_98 (fun H locs hP hS => ?_)
            refine lv_aload_n C.1 C.2.1 d_MO_order_99 rfl (lv_at hl 1 rfl) ?_
            refine xget C hP o_MO rfl c_MO (k := 59) (v := .ref (b + 53)) (by decide) wg_936 rfl d_MO_order_100 ?_
            refine lv_aload_n C.1 C.2.1 d_MO_order_103 rfl (lv_at hl 1 rfl) ?_
            refine xget C hP o_MO rfl c_MO (k := 56) (v := .int (st 0 56 0)) (by decide) wg_933 (congrArg Value.int (Eq.trans (xu_a (by decide)) (Eq.trans (xu_a (by decide)) (xu_f (by decide))))) d_MO_order_104 ?_
            refine lv_iload C.1 C.2.1 d_MO_order_107 (lv_at hl 5 rfl) ?_
            refine xiast mw_inj C hP hS om_53 rfl (on_in hoo h5) rfl d_MO_order_109 (fun H locs hP hS => ?_)
            refine lv_aload_n C.1 C.2.1 d_MO_order_110 rfl (lv_at hl 1 rfl) ?_
            refine xget C hP o_MO rfl c_MO (k := 60) (v := .ref (b + 54)) (by decide) wg_937 rfl d_MO_order_111 ?_
            refine lv_aload_n C.1 C.2.1 d_MO_order_114 rfl (lv_at hl 1 rfl) ?_
            refine xget C hP o_MO rfl c_MO (k := 56) (v := .int (st 0 56 0)) (by decide) wg_933 (congrArg Value.int (Eq.trans (xu_a (by decide)) (Eq.trans (xu_a (by decide)) (Eq.trans (xu_a (by decide)) (xu_f (by decide)))))) d_MO_order_115 ?_
            refine lv_iconst (v := (-1)) C.1 C.2.1 d_MO_order_118 (by decide) ?_
            refine xiast mw_inj C hP hS om_54 rfl (on_in hoo h5) rfl d_MO_order_119 (fun H locs hP hS => ?_)
            refine lv_aload_n C.1 C.2.1 d_MO_order_120 rfl (lv_at hl 1 rfl) ?_
            refine lv_dup C.1 C.2.1 d_MO_order_121 rfl ?_
            refine xget C hP o_MO rfl c_MO (k := 56) (v := .int (st 0 56 0)) (by decide) wg_933 (congrArg Value.int (Eq.trans (xu_a (by decide)) (Eq.trans (xu_a (by decide)) (Eq.trans (xu_a (by decide)) (Eq.trans (xu_a (by decide)) (xu_f (by decide))))))) d_MO_order_122 ?_
            refine lv_iconst (v := 1) C.1 C.2.1 d_MO_order_125 (by decide) ?_
            refine lv_iadd C.1 C.2.1 d_MO_order_126 ?_
            refine xput mw_inj C hP hS o_MO rfl c_MO (k := 56) (x := ((st 0 56 0) + 1)) (by decide) wg_933 rfl rfl rfl rfl d_MO_order_127 (fun H locs hP hS => ?_)
            refine lv_aload_n C.1 C.2.1 d_MO_order_130 rfl (lv_at hl 1 rfl) ?_
            refine lv_iconst (v := 5) C.1 C.2.1 d_MO_order_131 (by decide) ?_
            refine lv_iload_n C.1 C.2.1 d_MO_order_132 rfl (lv_at hl 3 rfl) ?_
            refine lv_aload_n C.1 C.2.1 d_MO_order_133 rfl (lv_at hl 1 rfl) ?_
            refine xget C hP o_MO rfl c_MO (k := 56) (v := .int ((st 0 56 0) + 1)) (by decide) wg_933 (congrArg Value.int xu_s) d_MO_order_134 ?_
            refine lv_iconst (v := 1) C.1 C.2.1 d_MO_order_137 (by decide) ?_
            refine lv_isub C.1 C.2.1 d_MO_order_138 ?_
            refine lv_iconst (v := 0) C.1 C.2.1 d_MO_order_139 (by decide) ?_
            refine lv_iconst (v := 0) C.1 C.2.1 d_MO_order_140 (by decide) ?_
            refine xcVv (rest := []) C hml hl.1 (k_MO_send l D cA b (xu (xu (xu (xu (xu (xu st 0 0 0 0) 51 ((st 0 56 0)).toNatClampNeg 0 a1) 52 ((st 0 56 0)).toNatClampNeg 0 a3) 53 ((st 0 56 0)).toNatClampNeg 0 a4) 54 ((st 0 56 0)).toNatClampNeg 0 (-1)) 0 56 0 ((st 0 56 0) + 1)) 5 a2 (((st 0 56 0) + 1) - 1) 0 0 (qok_xu (qok_xa (qok_xa (qok_xa (qok_xa (qok_xu hq (by decide)) (by decide)) (by decide)) (by decide)) (by decide)) (by decide)) (vm_isAt h2)) q_MO_send rfl rfl wg_1135 wg_1137 ws_60 ⟨Nat.le_of_ble_eq_true rfl, Nat.le_of_ble_eq_true rfl⟩ hP hS o_MO rfl c_MO rfl (Nat.le_of_ble_eq_true rfl) d_MO_order_141 rfl (fun H locs hP hS => ?_)
            refine lv_aload_n C.1 C.2.1 d_MO_order_144 rfl (lv_at hl 1 rfl) ?_
            refine xcVv (rest := []) C hml hl.1 (k_MO_settle l D cA b (f_MO_send (xu (xu (xu (xu (xu (xu st 0 0 0 0) 51 ((st 0 56 0)).toNatClampNeg 0 a1) 52 ((st 0 56 0)).toNatClampNeg 0 a3) 53 ((st 0 56 0)).toNatClampNeg 0 a4) 54 ((st 0 56 0)).toNatClampNeg 0 (-1)) 0 56 0 ((st 0 56 0) + 1)) 5 a2 (((st 0 56 0) + 1) - 1) 0 0) (p_MO_send (qok_xu (qok_xa (qok_xa (qok_xa (qok_xa (qok_xu hq (by decide)) (by decide)) (by decide)) (by decide)) (by decide)) (by decide))) (cok_of (cok_of (cok_of (cok_of (cok_of (cok_of (cok_of hc (fun _ => xu_a (by decide))) (fun _ => xu_a (by decide))) (fun _ => xu_a (by decide))) (fun _ => xu_a (by decide))) (fun _ => xu_a (by decide))) (fun _ => xu_a (by decide))) (fun _ => fr_MO_send (by simp) (by decide)))) q_MO_settle rfl rfl wg_1119 wg_1121 ws_56 ⟨Nat.le_of_ble_eq_true rfl, Nat.le_of_ble_eq_true rfl⟩ hP hS o_MO rfl c_MO rfl (Nat.le_of_ble_eq_true rfl) d_MO_order_145 rfl (fun H locs hP hS => ?_)
            refine lv_aload_n C.1 C.2.1 d_MO_order_148 rfl (lv_at hl 1 rfl) ?_
            refine xget C hP o_MO rfl c_MO (k := 56) (v := .int ((st 0 56 0) + 1)) (by decide) wg_933 (congrArg Value.int (Eq.trans (fr_MO_settle (by decide) (by decide)) (Eq.trans (fr_MO_send (by decide) (by decide)) xu_s))) d_MO_order_149 ?_
            refine lv_iconst (v := 1) C.1 C.2.1 d_MO_order_152 (by decide) ?_
            refine lv_isub C.1 C.2.1 d_MO_order_153 ?_
            exact xri C hlk hr hP hS d_MO_order_154 ⟨by rw [f_MO_order, if_neg h1, if_neg h2, if_pos h3, if_neg h4, if_neg h5], by rw [f_MO_order, if_neg h1, if_neg h2, if_pos h3, if_neg h4, if_neg h5]⟩
          · refine lv_iconst (v := 2) C.1 C.2.1 d_MO_order_62 (by decide) ?_
            refine lv_goto (tgt := 67) C.1 C.2.1 d_MO_order_63 (by decide) ?_
            refine xput mw_inj C hP hS o_MO rfl c_MO (k := 0) (x := 2) (by decide) wg_877 rfl rfl rfl rfl d_MO_order_67 (fun H locs hP hS => ?_)
            refine lv_aload_n C.1 C.2.1 d_MO_order_70 rfl (lv_at hl 1 rfl) ?_
            refine xget C hP o_MO rfl c_MO (k := 0) (v := .int 2) (by decide) wg_877 (congrArg Value.int xu_s) d_MO_order_71 ?_
            refine lv_if_le (tgt := 79) C.1 C.2.1 d_MO_order_74 (by decide) (fun h => absurd h (by decide)) (fun _ => ?_)
            refine lv_iconst (v := 0) C.1 C.2.1 d_MO_order_77 (by decide) ?_
            exact xri C hlk hr hP hS d_MO_order_78 ⟨by rw [f_MO_order, if_neg h1, if_neg h2, if_pos h3, if_neg h4, if_pos h5], by rw [f_MO_order, if_neg h1, if_neg h2, if_pos h3, if_neg h4, if_pos h5]⟩
      · refine lv_iload_n C.1 C.2.1 d_MO_order_27 rfl (lv_at hl 2 rfl) ?_
        refine lv_goto (tgt := 32) C.1 C.2.1 d_MO_order_28 (by decide) ?_
        refine xzald C hP om_8 rfl (v := (bz (st 8 a2.toNatClampNeg 0))) (vm_isAt h2) rfl d_MO_order_32 ?_
        refine lv_if_eq (tgt := 40) C.1 C.2.1 d_MO_order_33 (by decide) (fun h6 => ?_) (fun h6 => ?_)
        · refine lv_iconst (v := 0) C.1 C.2.1 d_MO_order_40 (by decide) ?_
          refine lv_istore C.1 C.2.1 d_MO_order_41 hl (by decide) rfl (fun ls hl => ?_)
          have hl : lv_has ls 6 [(5, .int 0), (0, .ref (b + 0)), (1, .int a1), (2, .int a2), (3, .int a3), (4, .int a4)] := hl
          refine lv_aload_n C.1 C.2.1 d_MO_order_43 rfl (lv_at hl 1 rfl) ?_
          refine lv_iload C.1 C.2.1 d_MO_order_44 (lv_at hl 0 rfl) ?_
          refine lv_if_ne (tgt := 53) C.1 C.2.1 d_MO_order_46 (by decide) (fun h => absurd (by decide) h) (fun _ => ?_)
          refine lv_iconst (v := 1) C.1 C.2.1 d_MO_order_49 (by decide) ?_
          refine lv_goto (tgt := 67) C.1 C.2.1 d_MO_order_50 (by decide) ?_
          refine xput mw_inj C hP hS o_MO rfl c_MO (k := 0) (x := 1) (by decide) wg_877 rfl rfl rfl rfl d_MO_order_67 (fun H locs hP hS => ?_)
          refine lv_aload_n C.1 C.2.1 d_MO_order_70 rfl (lv_at hl 1 rfl) ?_
          refine xget C hP o_MO rfl c_MO (k := 0) (v := .int 1) (by decide) wg_877 (congrArg Value.int xu_s) d_MO_order_71 ?_
          refine lv_if_le (tgt := 79) C.1 C.2.1 d_MO_order_74 (by decide) (fun h => absurd h (by decide)) (fun _ => ?_)
          refine lv_iconst (v := 0) C.1 C.2.1 d_MO_order_77 (by decide) ?_
          exact xri C hlk hr hP hS d_MO_order_78 ⟨by rw [f_MO_order, if_neg h1, if_neg h2, if_neg h3, if_pos h6], by rw [f_MO_order, if_neg h1, if_neg h2, if_neg h3, if_pos h6]⟩
        · refine lv_iconst (v := 1) C.1 C.2.1 d_MO_order_36 (by decide) ?_
          refine lv_goto (tgt := 41) C.1 C.2.1 d_MO_order_37 (by decide) ?_
          refine lv_istore C.1 C.2.1 d_MO_order_41 hl (by decide) rfl (fun ls hl => ?_)
          have hl : lv_has ls 6 [(5, .int 1), (0, .ref (b + 0)), (1, .int a1), (2, .int a2), (3, .int a3), (4, .int a4)] := hl
          refine lv_aload_n C.1 C.2.1 d_MO_order_43 rfl (lv_at hl 1 rfl) ?_
          refine lv_iload C.1 C.2.1 d_MO_order_44 (lv_at hl 0 rfl) ?_
          refine lv_if_ne (tgt := 53) C.1 C.2.1 d_MO_order_46 (by decide) (fun _ => ?_) (fun h => absurd h (by decide))
          refine lv_aload_n C.1 C.2.1 d_MO_order_53 rfl (lv_at hl 1 rfl) ?_
          refine xget C hP o_MO rfl c_MO (k := 56) (v := .int (st 0 56 0)) (by decide) wg_933 rfl d_MO_order_54 ?_
          refine lv_bipush (v := 100) C.1 C.2.1 d_MO_order_57 (by decide) ?_
          refine lv_icmp_ne (tgt := 66) C.1 C.2.1 d_MO_order_59 (by decide) (fun h7 => ?_) (fun h7 => ?_)
          · refine lv_iconst (v := 0) C.1 C.2.1 d_MO_order_66 (by decide) ?_
            refine xput mw_inj C hP hS o_MO rfl c_MO (k := 0) (x := 0) (by decide) wg_877 rfl rfl rfl rfl d_MO_order_67 (fun H locs hP hS => ?_)
            refine lv_aload_n C.1 C.2.1 d_MO_order_70 rfl (lv_at hl 1 rfl) ?_
            refine xget C hP o_MO rfl c_MO (k := 0) (v := .int 0) (by decide) wg_877 (congrArg Value.int xu_s) d_MO_order_71 ?_
            refine lv_if_le (tgt := 79) C.1 C.2.1 d_MO_order_74 (by decide) (fun _ => ?_) (fun h => absurd (by decide) h)
            refine lv_aload_n C.1 C.2.1 d_MO_order_79 rfl (lv_at hl 1 rfl) ?_
            refine xget C hP o_MO rfl c_MO (k := 57) (v := .ref (b + 51)) (by decide) wg_934 rfl d_MO_order_80 ?_
            refine lv_aload_n C.1 C.2.1 d_MO_order_83 rfl (lv_at hl 1 rfl) ?_
            refine xget C hP o_MO rfl c_MO (k := 56) (v := .int (st 0 56 0)) (by decide) wg_933 (congrArg Value.int (xu_f (by decide))) d_MO_order_84 ?_
            refine lv_iload_n C.1 C.2.1 d_MO_order_87 rfl (lv_at hl 2 rfl) ?_
            refine xiast mw_inj C hP hS om_51 rfl (on_in hoo h7) rfl d_MO_order_88 (fun H locs hP hS => ?_)
            refine lv_aload_n C.1 C.2.1 d_MO_order_89 rfl (lv_at hl 1 rfl) ?_
            refine xget C hP o_MO rfl c_MO (k := 58) (v := .ref (b + 52)) (by decide) wg_935 rfl d_MO_order_90 ?_
            refine lv_aload_n C.1 C.2.1 d_MO_order_93 rfl (lv_at hl 1 rfl) ?_
            refine xget C hP o_MO rfl c_MO (k := 56) (v := .int (st 0 56 0)) (by decide) wg_933 (congrArg Value.int (Eq.trans (xu_a (by decide)) (xu_f (by decide)))) d_MO_order_94 ?_
            refine lv_iload_n C.1 C.2.1 d_MO_order_97 rfl (lv_at hl 4 rfl) ?_
            refine xiast mw_inj C hP hS om_52 rfl (on_in hoo h7) rfl d_MO_order_98 (fun H locs hP hS => ?_)
            refine lv_aload_n C.1 C.2.1 d_MO_order_99 rfl (lv_at hl 1 rfl) ?_
            refine xget C hP o_MO rfl c_MO (k := 59) (v := .ref (b + 53)) (by decide) wg_936 rfl d_MO_order_100 ?_
            refine lv_aload_n C.1 C.2.1 d_MO_order_103 rfl (lv_at hl 1 rfl) ?_
            refine xget C hP o_MO rfl c_MO (k := 56) (v := .int (st 0 56 0)) (by decide) wg_933 (congrArg Value.int (Eq.trans (xu_a (by decide)) (Eq.trans (xu_a (by decide)) (xu_f (by decide))))) d_MO_order_104 ?_
            refine lv_iload C.1 C.2.1 d_MO_order_107 (lv_at hl 5 rfl) ?_
            refine xiast mw_inj C hP hS om_53 rfl (on_in hoo h7) rfl d_MO_order_109 (fun H locs hP hS => ?_)
            refine lv_aload_n C.1 C.2.1 d_MO_order_110 rfl (lv_at hl 1 rfl) ?_
            refine xget C hP o_MO rfl c_MO (k := 60) (v := .ref (b + 54)) (by decide) wg_937 rfl d_MO_order_111 ?_
            refine lv_aload_n C.1 C.2.1 d_MO_order_114 rfl (lv_at hl 1 rfl) ?_
            refine xget C hP o_MO rfl c_MO (k := 56) (v := .int (st 0 56 0)) (by decide) wg_933 (congrArg Value.int (Eq.trans (xu_a (by decide)) (Eq.trans (xu_a (by decide)) (Eq.trans (xu_a (by decide)) (xu_f (by decide)))))) d_MO_order_115 ?_
            refine lv_iconst (v := (-1)) C.1 C.2.1 d_MO_order_118 (by decide) ?_
            refine xiast mw_inj C hP hS om_54 rfl (on_in hoo h7) rfl d_MO_order_119 (fun H locs hP hS => ?_)
            refine lv_aload_n C.1 C.2.1 d_MO_order_120 rfl (lv_at hl 1 rfl) ?_
            refine lv_dup C.1 C.2.1 d_MO_order_121 rfl ?_
            refine xget C hP o_MO rfl c_MO (k := 56) (v := .int (st 0 56 0)) (by decide) wg_933 (congrArg Value.int (Eq.trans (xu_a (by decide)) (Eq.trans (xu_a (by decide)) (Eq.trans (xu_a (by decide)) (Eq.trans (xu_a (by decide)) (xu_f (by decide))))))) d_MO_order_122 ?_
            refine lv_iconst (v := 1) C.1 C.2.1 d_MO_order_125 (by decide) ?_
            refine lv_iadd C.1 C.2.1 d_MO_order_126 ?_
            refine xput mw_inj C hP hS o_MO rfl c_MO (k := 56) (x := ((st 0 56 0) + 1)) (by decide) wg_933 rfl rfl rfl rfl d_MO_order_127 (fun H locs hP hS => ?_)
            refine lv_aload_n C.1 C.2.1 d_MO_order_130 rfl (lv_at hl 1 rfl) ?_
            refine lv_iconst (v := 5) C.1 C.2.1 d_MO_order_131 (by decide) ?_
            refine lv_iload_n C.1 C.2.1 d_MO_order_132 rfl (lv_at hl 3 rfl) ?_
            refine lv_aload_n C.1 C.2.1 d_MO_order_133 rfl (lv_at hl 1 rfl) ?_
            refine xget C hP o_MO rfl c_MO (k := 56) (v := .int ((st 0 56 0) + 1)) (by decide) wg_933 (congrArg Value.int xu_s) d_MO_order_134 ?_
            refine lv_iconst (v := 1) C.1 C.2.1 d_MO_order_137 (by decide) ?_
            refine lv_isub C.1 C.2.1 d_MO_order_138 ?_
            refine lv_iconst (v := 0) C.1 C.2.1 d_MO_order_139 (by decide) ?_
            refine lv_iconst (v := 0) C.1 C.2.1 d_MO_order_140 (by decide) ?_
            refine xcVv (rest := []) C hml hl.1 (k_MO_send l D cA b (xu (xu (xu (xu (xu (xu st 0 0 0 0) 51 ((st 0 56 0)).toNatClampNeg 0 a1) 52 ((st 0 56 0)).toNatClampNeg 0 a3) 53 ((st 0 56 0)).toNatClampNeg 0 a4) 54 ((st 0 56 0)).toNatClampNeg 0 (-1)) 0 56 0 ((st 0 56 0) + 1)) 5 a2 (((st 0 56 0) + 1) - 1) 0 0 (qok_xu (qok_xa (qok_xa (qok_xa (qok_xa (qok_xu hq (by decide)) (by decide)) (by decide)) (by decide)) (by decide)) (by decide)) (vm_isAt h2)) q_MO_send rfl rfl wg_1135 wg_1137 ws_60 ⟨Nat.le_of_ble_eq_true rfl, Nat.le_of_ble_eq_true rfl⟩ hP hS o_MO rfl c_MO rfl (Nat.le_of_ble_eq_true rfl) d_MO_order_141 rfl (fun H locs hP hS => ?_)
            refine lv_aload_n C.1 C.2.1 d_MO_order_144 rfl (lv_at hl 1 rfl) ?_
            refine xcVv (rest := []) C hml hl.1 (k_MO_settle l D cA b (f_MO_send (xu (xu (xu (xu (xu (xu st 0 0 0 0) 51 ((st 0 56 0)).toNatClampNeg 0 a1) 52 ((st 0 56 0)).toNatClampNeg 0 a3) 53 ((st 0 56 0)).toNatClampNeg 0 a4) 54 ((st 0 56 0)).toNatClampNeg 0 (-1)) 0 56 0 ((st 0 56 0) + 1)) 5 a2 (((st 0 56 0) + 1) - 1) 0 0) (p_MO_send (qok_xu (qok_xa (qok_xa (qok_xa (qok_xa (qok_xu hq (by decide)) (by decide)) (by decide)) (by decide)) (by decide)) (by decide))) (cok_of (cok_of (cok_of (cok_of (cok_of (cok_of (cok_of hc (fun _ => xu_a (by decide))) (fun _ => xu_a (by decide))) (fun _ => xu_a (by decide))) (fun _ => xu_a (by decide))) (fun _ => xu_a (by decide))) (fun _ => xu_a (by decide))) (fun _ => fr_MO_send (by simp) (by decide)))) q_MO_settle rfl rfl wg_1119 wg_1121 ws_56 ⟨Nat.le_of_ble_eq_true rfl, Nat.le_of_ble_eq_true rfl⟩ hP hS o_MO rfl c_MO rfl (Nat.le_of_ble_eq_true rfl) d_MO_order_145 rfl (fun H locs hP hS => ?_)
            refine lv_aload_n C.1 C.2.1 d_MO_order_148 rfl (lv_at hl 1 rfl) ?_
            refine xget C hP o_MO rfl c_MO (k := 56) (v := .int ((st 0 56 0) + 1)) (by decide) wg_933 (congrArg Value.int (Eq.trans (fr_MO_settle (by decide) (by decide)) (Eq.trans (fr_MO_send (by decide) (by decide)) xu_s))) d_MO_order_149 ?_
            refine lv_iconst (v := 1) C.1 C.2.1 d_MO_order_152 (by decide) ?_
            refine lv_isub C.1 C.2.1 d_MO_order_153 ?_
            exact xri C hlk hr hP hS d_MO_order_154 ⟨by rw [f_MO_order, if_neg h1, if_neg h2, if_neg h3, if_neg h6, if_neg h7], by rw [f_MO_order, if_neg h1, if_neg h2, if_neg h3, if_neg h6, if_neg h7]⟩
          · refine lv_iconst (v := 2) C.1 C.2.1 d_MO_order_62 (by decide) ?_
            refine lv_goto (tgt := 67) C.1 C.2.1 d_MO_order_63 (by decide) ?_
            refine xput mw_inj C hP hS o_MO rfl c_MO (k := 0) (x := 2) (by decide) wg_877 rfl rfl rfl rfl d_MO_order_67 (fun H locs hP hS => ?_)
            refine lv_aload_n C.1 C.2.1 d_MO_order_70 rfl (lv_at hl 1 rfl) ?_
            refine xget C hP o_MO rfl c_MO (k := 0) (v := .int 2) (by decide) wg_877 (congrArg Value.int xu_s) d_MO_order_71 ?_
            refine lv_if_le (tgt := 79) C.1 C.2.1 d_MO_order_74 (by decide) (fun h => absurd h (by decide)) (fun _ => ?_)
            refine lv_iconst (v := 0) C.1 C.2.1 d_MO_order_77 (by decide) ?_
            exact xri C hlk hr hP hS d_MO_order_78 ⟨by rw [f_MO_order, if_neg h1, if_neg h2, if_neg h3, if_neg h6, if_pos h7], by rw [f_MO_order, if_neg h1, if_neg h2, if_neg h3, if_neg h6, if_pos h7]⟩
