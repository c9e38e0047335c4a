def f_BN_bind (st : XS) (a1 : Int32) (a2 : Int32) : Nat × Int32 × XS :=
  if (f_BN_isBed a1) = 0 then (1, 0, st)
  else if (f_BN_isUnit a2) = 0 then (1, 0, st)
  else if 16 ≤ (st 0 6 0) then (2, 0, st)
  else if (f_BN_leastDeviceWith st a1 a2) = (-1) then (2, 0, st)
  else (0, (st 0 6 0), (xu (f_DI_attach st ((st 0 6 0)).toNatClampNeg (f_BN_leastDeviceWith st a1 a2) (f_DE_leastChannelWith st ((f_BN_leastDeviceWith st a1 a2)).toNatClampNeg a2) (st 8 4 ((f_BN_leastDeviceWith st a1 a2)).toNatClampNeg) (st 8 6 ((f_BN_leastDeviceWith st a1 a2)).toNatClampNeg)) 0 6 0 ((st 0 6 0) + 1)))
set_option maxRecDepth 100000 in
set_option maxHeartbeats 4000000 in
theorem fr_BN_bind {st : XS} {a1 : Int32} {a2 : Int32} {a' k' i' : Nat} (h : (a', k') ∉ ([(0, 6), (15, 0), (15, 1), (15, 2), (15, 3)] : List (Nat × Nat))) (h2 : a' ∉ ([] : List Nat)) : (f_BN_bind st a1 a2).2.2 a' k' i' = st a' k' i' := by
  unfold f_BN_bind
  repeat' split
  all_goals (try dsimp only)
  all_goals (repeat (first | with_reducible rfl | rw [xu_f (fun e => h (by rw [e]; decide))] | rw [fr_DI_attach (fun q => h ((by decide : ∀ z ∈ ([(15, 0), (15, 1), (15, 2), (15, 3)] : List (Nat × Nat)), z ∈ ([(0, 6), (15, 0), (15, 1), (15, 2), (15, 3)] : List (Nat × Nat))) _ q)) (fun q => h2 ((by decide : ∀ z ∈ ([] : List Nat), z ∈ ([] : List Nat)) _ q))]))
theorem p_BN_bind {st : XS} {a1 : Int32} {a2 : Int32} (h : pok st) : pok (f_BN_bind st a1 a2).2.2 := pok_of h (fr_BN_bind (by decide) (by decide)) (fun _ => fr_BN_bind (by simp) (by decide))
set_option maxRecDepth 100000 in
set_option maxHeartbeats 4000000 in
theorem k_BN_bind (l : Launch) (hlt : l.stackTraces = false) (D : va_G) (cA : Nat → ClassId) (b : Nat) (st : XS) (a1 : Int32) (a2 : Int32) (ho : dok st) (hy0 : 0 ≤ (st 0 6 0).toInt) : xMt cw D cA b l y_BN_bind (Cond.code y_BN_bind b_BN_bind 6 (some .int)) { frames := 6, cells := 1, slots := 6, locals := 89 } st [.ref (b + 0), .int a1, .int a2] (f_BN_bind st a1 a2).1 (f_BN_bind st a1 a2).2.1 (f_BN_bind st a1 a2).2.2 := by
  refine xMt_of rfl (by decide) (Nat.le_of_ble_eq_true rfl) ?_
  intro p e s m below meth c ls C hlk hr hml hl hP hS hT hno
  have hl : lv_has ls 6 [(0, .ref (b + 0)), (1, .int a1), (2, .int a2)] := hl
  refine lv_iload_n C.1 C.2.1 d_BN_bind_0 rfl (lv_at hl 1 rfl) ?_
  refine xcSi (rest := []) C hml hl.1 (k_BN_isBed l D cA b st a1) q_BN_isBed rfl rfl wg_413 wg_414 ⟨Nat.le_of_ble_eq_true rfl, Nat.le_of_ble_eq_true rfl⟩ hP hS rfl (Nat.le_of_ble_eq_true rfl) d_BN_bind_1 rfl (fun H locs hP hS => ?_)
  refine lv_if_eq (tgt := 14) C.1 C.2.1 d_BN_bind_4 (by decide) (fun h1 => ?_) (fun h1 => ?_)
  · rw [show (f_BN_bind st a1 a2) = (1, 0, st) from by rw [f_BN_bind, if_pos h1]]
    exact xthrow C hlt (names := nmR) (ex := 1) (by decide) (by decide) th_1 wg_650 wg_16 wg_651 hT hP hS (hl.1.trans hml.symm) d_BN_bind_14 d_BN_bind_17 d_BN_bind_18 d_BN_bind_21 hno (by decide) (Nat.le_of_ble_eq_true rfl) (by decide) (by decide) hlk rfl (by decide)
  · refine lv_iload_n C.1 C.2.1 d_BN_bind_7 rfl (lv_at hl 2 rfl) ?_
    refine xcSi (rest := []) C hml hl.1 (k_BN_isUnit l D cA b st a2) q_BN_isUnit rfl rfl wg_647 wg_648 ⟨Nat.le_of_ble_eq_true rfl, Nat.le_of_ble_eq_true rfl⟩ hP hS rfl (Nat.le_of_ble_eq_true rfl) d_BN_bind_8 rfl (fun H locs hP hS => ?_)
    refine lv_if_ne (tgt := 22) C.1 C.2.1 d_BN_bind_11 (by decide) (fun h2 => ?_) (fun h2 => ?_)
    · refine lv_aload_n C.1 C.2.1 d_BN_bind_22 rfl (lv_at hl 0 rfl) ?_
      refine lv_iload_n C.1 C.2.1 d_BN_bind_23 rfl (lv_at hl 1 rfl) ?_
      refine lv_iload_n C.1 C.2.1 d_BN_bind_24 rfl (lv_at hl 2 rfl) ?_
      refine xcVi (rest := []) C hml hl.1 (k_BN_leastDeviceWith l D cA b st a1 a2 ho) q_BN_leastDeviceWith rfl rfl wg_757 wg_759 ws_40 ⟨Nat.le_of_ble_eq_true rfl, Nat.le_of_ble_eq_true rfl⟩ hP hS o_BN rfl c_BN rfl (Nat.le_of_ble_eq_true rfl) d_BN_bind_25 rfl (fun H locs hP hS => ?_)
      refine lv_istore_n C.1 C.2.1 d_BN_bind_28 rfl hl (by decide) rfl (fun ls hl => ?_)
      have hl : lv_has ls 6 [(3, .int (f_BN_leastDeviceWith st a1 a2)), (0, .ref (b + 0)), (1, .int a1), (2, .int a2)] := hl
      refine lv_aload_n C.1 C.2.1 d_BN_bind_29 rfl (lv_at hl 1 rfl) ?_
      refine xget C hP o_BN rfl c_BN (k := 6) (v := .int (st 0 6 0)) (by decide) wg_384 rfl d_BN_bind_30 ?_
      refine lv_bipush (v := 16) C.1 C.2.1 d_BN_bind_33 (by decide) ?_
      refine lv_icmp_ge (tgt := 43) C.1 C.2.1 d_BN_bind_35 (by decide) (fun h3 => ?_) (fun h3 => ?_)
      · rw [show (f_BN_bind st a1 a2) = (2, 0, st) from by rw [f_BN_bind, if_neg h1, if_neg h2, if_pos h3]]
        exact xthrow C hlt (names := nmR) (ex := 2) (by decide) (by decide) th_2 wg_714 wg_17 wg_715 hT hP hS (hl.1.trans hml.symm) d_BN_bind_43 d_BN_bind_46 d_BN_bind_47 d_BN_bind_50 hno (by decide) (Nat.le_of_ble_eq_true rfl) (by decide) (by decide) hlk rfl (by decide)
      · refine lv_iload_n C.1 C.2.1 d_BN_bind_38 rfl (lv_at hl 0 rfl) ?_
        refine lv_iconst (v := (-1)) C.1 C.2.1 d_BN_bind_39 (by decide) ?_
        refine lv_icmp_ne (tgt := 51) C.1 C.2.1 d_BN_bind_40 (by decide) (fun h4 => ?_) (fun h4 => ?_)
        · refine lv_aload_n C.1 C.2.1 d_BN_bind_51 rfl (lv_at hl 1 rfl) ?_
          refine xget C hP o_BN rfl c_BN (k := 0) (v := .ref (b + 1)) (by decide) wg_378 rfl d_BN_bind_52 ?_
          refine lv_iload_n C.1 C.2.1 d_BN_bind_55 rfl (lv_at hl 0 rfl) ?_
          refine xaald C hP o_da rfl (E := R_DE) rfl (v := b + (73 + 20 * ((f_BN_leastDeviceWith st a1 a2)).toNatClampNeg)) (ld_in h4) rfl d_BN_bind_56 ?_
          refine lv_astore C.1 C.2.1 d_BN_bind_57 hl (by decide) rfl (fun ls hl => ?_)
          have hl : lv_has ls 6 [(4, .ref (b + (73 + 20 * ((f_BN_leastDeviceWith st a1 a2)).toNatClampNeg))), (3, .int (f_BN_leastDeviceWith st a1 a2)), (0, .ref (b + 0)), (1, .int a1), (2, .int a2)] := hl
          refine lv_aload_n C.1 C.2.1 d_BN_bind_59 rfl (lv_at hl 2 rfl) ?_
          refine xget C hP o_BN rfl c_BN (k := 6) (v := .int (st 0 6 0)) (by decide) wg_384 rfl d_BN_bind_60 ?_
          refine lv_istore C.1 C.2.1 d_BN_bind_63 hl (by decide) rfl (fun ls hl => ?_)
          have hl : lv_has ls 6 [(5, .int (st 0 6 0)), (4, .ref (b + (73 + 20 * ((f_BN_leastDeviceWith st a1 a2)).toNatClampNeg))), (3, .int (f_BN_leastDeviceWith st a1 a2)), (0, .ref (b + 0)), (1, .int a1), (2, .int a2)] := hl
          refine lv_aload_n C.1 C.2.1 d_BN_bind_65 rfl (lv_at hl 3 rfl) ?_
          refine xget C hP o_BN rfl c_BN (k := 2) (v := .ref (b + 3)) (by decide) wg_380 rfl d_BN_bind_66 ?_
          refine lv_iload C.1 C.2.1 d_BN_bind_69 (lv_at hl 0 rfl) ?_
          refine xaald C hP o_ya rfl (E := R_DI) rfl (v := b + (233 + ((st 0 6 0)).toNatClampNeg)) (ge_in hy0 h3 (by decide)) rfl d_BN_bind_71 ?_
          refine lv_iload_n C.1 C.2.1 d_BN_bind_72 rfl (lv_at hl 2 rfl) ?_
          refine lv_aload C.1 C.2.1 d_BN_bind_73 (lv_at hl 1 rfl) ?_
          refine lv_iload_n C.1 C.2.1 d_BN_bind_75 rfl (lv_at hl 5 rfl) ?_
          refine xcVNi (rest := [.int (f_BN_leastDeviceWith st a1 a2), .ref (b + (233 + ((st 0 6 0)).toNatClampNeg))]) C hml hl.1 (k_DE_leastChannelWith l D cA b st ((f_BN_leastDeviceWith st a1 a2)).toNatClampNeg (xin_lt (ld_in h4)) a2 (ho _ (xin_lt (ld_in h4)))) q_DE_leastChannelWith rfl rfl wn_761 wg_763 ws_41 ⟨Nat.le_of_ble_eq_true rfl, Nat.le_of_ble_eq_true rfl⟩ hP hS (o_DE (xin_lt (ld_in h4))) rfl c_DE rfl (Nat.le_of_ble_eq_true rfl) d_BN_bind_76 rfl (fun H locs hP hS => ?_)
          refine lv_aload C.1 C.2.1 d_BN_bind_79 (lv_at hl 1 rfl) ?_
          refine xgetN C hP (o_DE (xin_lt (ld_in h4))) rfl c_DE (k := 4) (v := .int (st 8 4 ((f_BN_leastDeviceWith st a1 a2)).toNatClampNeg)) (by decide) wn_289 rfl d_BN_bind_81 ?_
          refine lv_aload C.1 C.2.1 d_BN_bind_84 (lv_at hl 1 rfl) ?_
          refine xgetN C hP (o_DE (xin_lt (ld_in h4))) rfl c_DE (k := 6) (v := .int (st 8 6 ((f_BN_leastDeviceWith st a1 a2)).toNatClampNeg)) (by decide) wn_293 rfl d_BN_bind_86 ?_
          refine xcVNv (rest := []) C hml hl.1 (k_DI_attach l D cA b st (233 + ((st 0 6 0)).toNatClampNeg) ((st 0 6 0)).toNatClampNeg (o_DI (xin_lt (ge_in hy0 h3 (by decide)))) (f_BN_leastDeviceWith st a1 a2) (f_DE_leastChannelWith st ((f_BN_leastDeviceWith st a1 a2)).toNatClampNeg a2) (st 8 4 ((f_BN_leastDeviceWith st a1 a2)).toNatClampNeg) (st 8 6 ((f_BN_leastDeviceWith st a1 a2)).toNatClampNeg)) q_DI_attach rfl rfl wn_765 wg_767 ws_42 ⟨Nat.le_of_ble_eq_true rfl, Nat.le_of_ble_eq_true rfl⟩ hP hS (o_DI (xin_lt (ge_in hy0 h3 (by decide)))) rfl c_DI rfl (Nat.le_of_ble_eq_true rfl) d_BN_bind_89 rfl (fun H locs hP hS => ?_)
          refine lv_aload_n C.1 C.2.1 d_BN_bind_92 rfl (lv_at hl 3 rfl) ?_
          refine lv_iload C.1 C.2.1 d_BN_bind_93 (lv_at hl 0 rfl) ?_
          refine lv_iconst (v := 1) C.1 C.2.1 d_BN_bind_95 (by decide) ?_
          refine lv_iadd C.1 C.2.1 d_BN_bind_96 ?_
          refine xput cw_inj C hP hS o_BN rfl c_BN (k := 6) (x := ((st 0 6 0) + 1)) (by decide) wg_384 rfl rfl rfl rfl d_BN_bind_97 (fun H locs hP hS => ?_)
          refine lv_iload C.1 C.2.1 d_BN_bind_100 (lv_at hl 0 rfl) ?_
          rw [show (f_BN_bind st a1 a2) = (0, (st 0 6 0), (xu (f_DI_attach st ((st 0 6 0)).toNatClampNeg (f_BN_leastDeviceWith st a1 a2) (f_DE_leastChannelWith st ((f_BN_leastDeviceWith st a1 a2)).toNatClampNeg a2) (st 8 4 ((f_BN_leastDeviceWith st a1 a2)).toNatClampNeg) (st 8 6 ((f_BN_leastDeviceWith st a1 a2)).toNatClampNeg)) 0 6 0 ((st 0 6 0) + 1))) from by rw [f_BN_bind, if_neg h1, if_neg h2, if_neg h3, if_neg h4]]
          exact xrtp C hlk hr hP hS d_BN_bind_102
        · rw [show (f_BN_bind st a1 a2) = (2, 0, st) from by rw [f_BN_bind, if_neg h1, if_neg h2, if_neg h3, if_pos h4]]
          exact xthrow C hlt (names := nmR) (ex := 2) (by decide) (by decide) th_2 wg_714 wg_17 wg_715 hT hP hS (hl.1.trans hml.symm) d_BN_bind_43 d_BN_bind_46 d_BN_bind_47 d_BN_bind_50 hno (by decide) (Nat.le_of_ble_eq_true rfl) (by decide) (by decide) hlk rfl (by decide)
    · rw [show (f_BN_bind st a1 a2) = (1, 0, st) from by rw [f_BN_bind, if_neg h1, if_pos h2]]
      exact xthrow C hlt (names := nmR) (ex := 1) (by decide) (by decide) th_1 wg_650 wg_16 wg_651 hT hP hS (hl.1.trans hml.symm) d_BN_bind_14 d_BN_bind_17 d_BN_bind_18 d_BN_bind_21 hno (by decide) (Nat.le_of_ble_eq_true rfl) (by decide) (by decide) hlk rfl (by decide)
