def f_BN_channel (st : XS) (a1 : Int32) (a2 : Int32) (a3 : Int32) (a4 : Int32) (a5 : Int32) : Nat × Int32 × XS :=
  if (f_BN_isOpen st a1) = 0 then (1, 0, st)
  else if (f_BN_isUnit a2) = 0 then (1, 0, st)
  else if (f_BN_isRange a3 a4 a5) = 0 then (1, 0, st)
  else if (st 8 5 a1.toNatClampNeg) < 4 then (0, (st 8 5 a1.toNatClampNeg), (xu (f_CH_begin st (20 * a1.toNatClampNeg + 4 * ((st 8 5 a1.toNatClampNeg)).toNatClampNeg) a2 a3 a4 a5) 8 5 a1.toNatClampNeg ((st 8 5 a1.toNatClampNeg) + 1)))
  else (2, 0, st)
set_option maxRecDepth 100000 in
set_option maxHeartbeats 4000000 in
theorem fr_BN_channel {st : XS} {a1 : Int32} {a2 : Int32} {a3 : Int32} {a4 : Int32} {a5 : Int32} {a' k' i' : Nat} (h : (a', k') ∉ ([(8, 5), (11, 0), (11, 1), (11, 2), (12, 3), (13, 0)] : List (Nat × Nat))) (h2 : a' ∉ ([] : List Nat)) : (f_BN_channel st a1 a2 a3 a4 a5).2.2 a' k' i' = st a' k' i' := by
  unfold f_BN_channel
  repeat' split
  all_goals (try dsimp only)
  all_goals (repeat (first | with_reducible rfl | rw [xu_f (fun e => h (by rw [e]; decide))] | rw [fr_CH_begin (fun q => h ((by decide : ∀ z ∈ ([(11, 0), (11, 1), (11, 2), (12, 3), (13, 0)] : List (Nat × Nat)), z ∈ ([(8, 5), (11, 0), (11, 1), (11, 2), (12, 3), (13, 0)] : List (Nat × Nat))) _ q)) (fun q => h2 ((by decide : ∀ z ∈ ([] : List Nat), z ∈ ([] : List Nat)) _ q))]))
theorem p_BN_channel {st : XS} {a1 : Int32} {a2 : Int32} {a3 : Int32} {a4 : Int32} {a5 : Int32} (h : pok st) : pok (f_BN_channel st a1 a2 a3 a4 a5).2.2 := pok_of h (fr_BN_channel (by decide) (by decide)) (fun _ => fr_BN_channel (by simp) (by decide))
set_option maxRecDepth 100000 in
set_option maxHeartbeats 4000000 in
theorem k_BN_channel (l : Launch) (hlt : l.stackTraces = false) (D : va_G) (cA : Nat → ClassId) (b : Nat) (st : XS) (a1 : Int32) (a2 : Int32) (a3 : Int32) (a4 : Int32) (a5 : Int32) (hz : ∀ d, d < 8 → 0 ≤ (st 8 5 d).toInt) : xMt cw D cA b l y_BN_channel (Cond.code y_BN_channel b_BN_channel 8 (some .int)) { frames := 6, cells := 1, slots := 6, locals := 89 } st [.ref (b + 0), .int a1, .int a2, .int a3, .int a4, .int a5] (f_BN_channel st a1 a2 a3 a4 a5).1 (f_BN_channel st a1 a2 a3 a4 a5).2.1 (f_BN_channel st a1 a2 a3 a4 a5).2.2 := by
  refine xMt_of rfl (by decide) (Nat.le_of_ble_eq_true rfl) ?_
  intro p e s m below meth c ls C hlk hr hml hl hP hS hT hno
  have hl : lv_has ls 8 [(0, .ref (b + 0)), (1, .int a1), (2, .int a2), (3, .int a3), (4, .int a4), (5, .int a5)] := hl
  refine lv_aload_n C.1 C.2.1 d_BN_channel_0 rfl (lv_at hl 0 rfl) ?_
  refine lv_iload_n C.1 C.2.1 d_BN_channel_1 rfl (lv_at hl 1 rfl) ?_
  refine xcVi (rest := []) C hml hl.1 (k_BN_isOpen l D cA b st a1) q_BN_isOpen rfl rfl wg_424 wg_426 ws_1 ⟨Nat.le_of_ble_eq_true rfl, Nat.le_of_ble_eq_true rfl⟩ hP hS o_BN rfl c_BN rfl (Nat.le_of_ble_eq_true rfl) d_BN_channel_2 rfl (fun H locs hP hS => ?_)
  refine lv_if_eq (tgt := 26) C.1 C.2.1 d_BN_channel_5 (by decide) (fun h1 => ?_) (fun h1 => ?_)
  · rw [show (f_BN_channel st a1 a2 a3 a4 a5) = (1, 0, st) from by rw [f_BN_channel, if_pos h1]]
    exact xthrow C hlt (names := nmR) (ex := 1) (by decide) (by decide) th_1 wg_650 wg_16 wg_651 hT hP hS (hl.1.trans hml.symm) d_BN_channel_26 d_BN_channel_29 d_BN_channel_30 d_BN_channel_33 hno (by decide) (Nat.le_of_ble_eq_true rfl) (by decide) (by decide) hlk rfl (by decide)
  · refine lv_iload_n C.1 C.2.1 d_BN_channel_8 rfl (lv_at hl 2 rfl) ?_
    refine xcSi (rest := []) C hml hl.1 (k_BN_isUnit l D cA b st a2) q_BN_isUnit rfl rfl wg_647 wg_648 ⟨Nat.le_of_ble_eq_true rfl, Nat.le_of_ble_eq_true rfl⟩ hP hS rfl (Nat.le_of_ble_eq_true rfl) d_BN_channel_9 rfl (fun H locs hP hS => ?_)
    refine lv_if_eq (tgt := 26) C.1 C.2.1 d_BN_channel_12 (by decide) (fun h2 => ?_) (fun h2 => ?_)
    · rw [show (f_BN_channel st a1 a2 a3 a4 a5) = (1, 0, st) from by rw [f_BN_channel, if_neg h1, if_pos h2]]
      exact xthrow C hlt (names := nmR) (ex := 1) (by decide) (by decide) th_1 wg_650 wg_16 wg_651 hT hP hS (hl.1.trans hml.symm) d_BN_channel_26 d_BN_channel_29 d_BN_channel_30 d_BN_channel_33 hno (by decide) (Nat.le_of_ble_eq_true rfl) (by decide) (by decide) hlk rfl (by decide)
    · refine lv_iload_n C.1 C.2.1 d_BN_channel_15 rfl (lv_at hl 3 rfl) ?_
      refine lv_iload C.1 C.2.1 d_BN_channel_16 (lv_at hl 4 rfl) ?_
      refine lv_iload C.1 C.2.1 d_BN_channel_18 (lv_at hl 5 rfl) ?_
      refine xcSi (rest := []) C hml hl.1 (k_BN_isRange l D cA b st a3 a4 a5) q_BN_isRange rfl rfl wg_448 wg_449 ⟨Nat.le_of_ble_eq_true rfl, Nat.le_of_ble_eq_true rfl⟩ hP hS rfl (Nat.le_of_ble_eq_true rfl) d_BN_channel_20 rfl (fun H locs hP hS => ?_)
      refine lv_if_ne (tgt := 34) C.1 C.2.1 d_BN_channel_23 (by decide) (fun h3 => ?_) (fun h3 => ?_)
      · refine lv_aload_n C.1 C.2.1 d_BN_channel_34 rfl (lv_at hl 0 rfl) ?_
        refine xget C hP o_BN rfl c_BN (k := 0) (v := .ref (b + 1)) (by decide) wg_378 rfl d_BN_channel_35 ?_
        refine lv_iload_n C.1 C.2.1 d_BN_channel_38 rfl (lv_at hl 1 rfl) ?_
        refine xaald C hP o_da rfl (E := R_DE) rfl (v := b + (73 + 20 * a1.toNatClampNeg)) (vd_isOpen h1) rfl d_BN_channel_39 ?_
        refine lv_astore C.1 C.2.1 d_BN_channel_40 hl (by decide) rfl (fun ls hl => ?_)
        have hl : lv_has ls 8 [(6, .ref (b + (73 + 20 * a1.toNatClampNeg))), (0, .ref (b + 0)), (1, .int a1), (2, .int a2), (3, .int a3), (4, .int a4), (5, .int a5)] := hl
        refine lv_aload C.1 C.2.1 d_BN_channel_42 (lv_at hl 0 rfl) ?_
        refine xgetN C hP (o_DE (xin_lt (vd_isOpen h1))) rfl c_DE (k := 5) (v := .int (st 8 5 a1.toNatClampNeg)) (by decide) wn_291 rfl d_BN_channel_44 ?_
        refine lv_iconst (v := 4) C.1 C.2.1 d_BN_channel_47 (by decide) ?_
        refine lv_icmp_lt (tgt := 59) C.1 C.2.1 d_BN_channel_48 (by decide) (fun h4 => ?_) (fun h4 => ?_)
        · refine lv_aload C.1 C.2.1 d_BN_channel_59 (lv_at hl 0 rfl) ?_
          refine xgetN C hP (o_DE (xin_lt (vd_isOpen h1))) rfl c_DE (k := 5) (v := .int (st 8 5 a1.toNatClampNeg)) (by decide) wn_291 rfl d_BN_channel_61 ?_
          refine lv_istore C.1 C.2.1 d_BN_channel_64 hl (by decide) rfl (fun ls hl => ?_)
          have hl : lv_has ls 8 [(7, .int (st 8 5 a1.toNatClampNeg)), (6, .ref (b + (73 + 20 * a1.toNatClampNeg))), (0, .ref (b + 0)), (1, .int a1), (2, .int a2), (3, .int a3), (4, .int a4), (5, .int a5)] := hl
          refine lv_aload C.1 C.2.1 d_BN_channel_66 (lv_at hl 1 rfl) ?_
          refine xgetN C hP (o_DE (xin_lt (vd_isOpen h1))) rfl c_DE (k := 0) (v := .ref (b + (74 + 20 * a1.toNatClampNeg))) (by decide) wn_281 rfl d_BN_channel_68 ?_
          refine lv_iload C.1 C.2.1 d_BN_channel_71 (lv_at hl 0 rfl) ?_
          refine xaald C hP (o_ca (xin_lt (vd_isOpen h1))) rfl (E := R_CH) rfl (v := b + (77 + (20 * a1.toNatClampNeg + 4 * ((st 8 5 a1.toNatClampNeg)).toNatClampNeg))) (lt_in (hz _ (xin_lt (vd_isOpen h1))) h4 (by decide)) rfl d_BN_channel_73 ?_
          refine lv_iload_n C.1 C.2.1 d_BN_channel_74 rfl (lv_at hl 4 rfl) ?_
          refine lv_iload_n C.1 C.2.1 d_BN_channel_75 rfl (lv_at hl 5 rfl) ?_
          refine lv_iload C.1 C.2.1 d_BN_channel_76 (lv_at hl 6 rfl) ?_
          refine lv_iload C.1 C.2.1 d_BN_channel_78 (lv_at hl 7 rfl) ?_
          refine xcVNv (rest := []) C hml hl.1 (k_CH_begin l D cA b st (20 * a1.toNatClampNeg + 4 * ((st 8 5 a1.toNatClampNeg)).toNatClampNeg) (cix_of (xin_lt (vd_isOpen h1)) (xin_lt (lt_in (hz _ (xin_lt (vd_isOpen h1))) h4 (by decide)))) a2 a3 a4 a5) q_CH_begin rfl rfl wn_729 wg_731 ws_37 ⟨Nat.le_of_ble_eq_true rfl, Nat.le_of_ble_eq_true rfl⟩ hP hS (o_CH (cix_of (xin_lt (vd_isOpen h1)) (xin_lt (lt_in (hz _ (xin_lt (vd_isOpen h1))) h4 (by decide))))) rfl c_CH rfl (Nat.le_of_ble_eq_true rfl) d_BN_channel_80 rfl (fun H locs hP hS => ?_)
          refine lv_aload C.1 C.2.1 d_BN_channel_83 (lv_at hl 1 rfl) ?_
          refine lv_iload C.1 C.2.1 d_BN_channel_85 (lv_at hl 0 rfl) ?_
          refine lv_iconst (v := 1) C.1 C.2.1 d_BN_channel_87 (by decide) ?_
          refine lv_iadd C.1 C.2.1 d_BN_channel_88 ?_
          refine xputN cw_inj C hP hS (o_DE (xin_lt (vd_isOpen h1))) rfl c_DE (k := 5) (x := ((st 8 5 a1.toNatClampNeg) + 1)) (by decide) wn_291 rfl rfl rfl rfl d_BN_channel_89 (fun H locs hP hS => ?_)
          refine lv_iload C.1 C.2.1 d_BN_channel_92 (lv_at hl 0 rfl) ?_
          rw [show (f_BN_channel st a1 a2 a3 a4 a5) = (0, (st 8 5 a1.toNatClampNeg), (xu (f_CH_begin st (20 * a1.toNatClampNeg + 4 * ((st 8 5 a1.toNatClampNeg)).toNatClampNeg) a2 a3 a4 a5) 8 5 a1.toNatClampNeg ((st 8 5 a1.toNatClampNeg) + 1))) from by rw [f_BN_channel, if_neg h1, if_neg h2, if_neg h3, if_pos h4]]
          exact xrtp C hlk hr hP hS d_BN_channel_94
        · rw [show (f_BN_channel st a1 a2 a3 a4 a5) = (2, 0, st) from by rw [f_BN_channel, if_neg h1, if_neg h2, if_neg h3, if_neg h4]]
          exact xthrow C hlt (names := nmR) (ex := 2) (by decide) (by decide) th_2 wg_714 wg_17 wg_715 hT hP hS (hl.1.trans hml.symm) d_BN_channel_51 d_BN_channel_54 d_BN_channel_55 d_BN_channel_58 hno (by decide) (Nat.le_of_ble_eq_true rfl) (by decide) (by decide) hlk rfl (by decide)
      · rw [show (f_BN_channel st a1 a2 a3 a4 a5) = (1, 0, st) from by rw [f_BN_channel, if_neg h1, if_neg h2, if_pos h3]]
        exact xthrow C hlt (names := nmR) (ex := 1) (by decide) (by decide) th_1 wg_650 wg_16 wg_651 hT hP hS (hl.1.trans hml.symm) d_BN_channel_26 d_BN_channel_29 d_BN_channel_30 d_BN_channel_33 hno (by decide) (Nat.le_of_ble_eq_true rfl) (by decide) (by decide) hlk rfl (by decide)
