def f_BN_message (st : XS) (a1 : Int32) (a2 : Int32) : Nat × Int32 × XS :=
  if (f_PO_indexOf st a1) = (-1) then (4, 0, st)
  else if a2 < 0 then (3, 0, st)
  else if a2 < 5 then (0, (f_ME_fact st (st 6 ((f_PO_indexOf st a1)).toNatClampNeg 0).toNatClampNeg a2), st)
  else (3, 0, st)
set_option maxRecDepth 100000 in
set_option maxHeartbeats 4000000 in
theorem k_BN_message (l : Launch) (hlt : l.stackTraces = false) (D : va_G) (cA : Nat → ClassId) (b : Nat) (st : XS) (a1 : Int32) (a2 : Int32) (hp : pok st) : xMt cw D cA b l y_BN_message (Cond.code y_BN_message b_BN_message 4 (some .int)) { frames := 6, cells := 1, slots := 6, locals := 89 } st [.ref (b + 0), .int a1, .int a2] (f_BN_message st a1 a2).1 (f_BN_message st a1 a2).2.1 (f_BN_message st a1 a2).2.2 := by
  refine xMt_of rfl (by decide) (Nat.le_of_ble_eq_true rfl) ?_
  intro p e s m below meth c ls C hlk hr hml hl hP hS hT hno
  have hl : lv_has ls 4 [(0, .ref (b + 0)), (1, .int a1), (2, .int a2)] := hl
  refine lv_aload_n C.1 C.2.1 d_BN_message_0 rfl (lv_at hl 0 rfl) ?_
  refine xget C hP o_BN rfl c_BN (k := 4) (v := .ref (b + 5)) (by decide) wg_382 rfl d_BN_message_1 ?_
  refine lv_iload_n C.1 C.2.1 d_BN_message_4 rfl (lv_at hl 1 rfl) ?_
  refine xcVNi (rest := []) C hml hl.1 (k_PO_indexOf l D cA b st a1 hp) q_PO_indexOf rfl rfl wn_526 wg_528 ws_16 ⟨Nat.le_of_ble_eq_true rfl, Nat.le_of_ble_eq_true rfl⟩ hP hS o_PO rfl c_PO rfl (Nat.le_of_ble_eq_true rfl) d_BN_message_5 rfl (fun H locs hP hS => ?_)
  refine lv_istore_n C.1 C.2.1 d_BN_message_8 rfl hl (by decide) rfl (fun ls hl => ?_)
  have hl : lv_has ls 4 [(3, .int (f_PO_indexOf st a1)), (0, .ref (b + 0)), (1, .int a1), (2, .int a2)] := hl
  refine lv_iload_n C.1 C.2.1 d_BN_message_9 rfl (lv_at hl 0 rfl) ?_
  refine lv_iconst (v := (-1)) C.1 C.2.1 d_BN_message_10 (by decide) ?_
  refine lv_icmp_ne (tgt := 22) C.1 C.2.1 d_BN_message_11 (by decide) (fun h1 => ?_) (fun h1 => ?_)
  · refine lv_iload_n C.1 C.2.1 d_BN_message_22 rfl (lv_at hl 3 rfl) ?_
    refine lv_if_lt (tgt := 31) C.1 C.2.1 d_BN_message_23 (by decide) (fun h2 => ?_) (fun h2 => ?_)
    · rw [show (f_BN_message st a1 a2) = (3, 0, st) from by rw [f_BN_message, if_neg h1, if_pos h2]]
      exact xthrow C hlt (names := nmR) (ex := 3) (by decide) (by decide) th_3 wg_778 wg_19 wg_779 hT hP hS (hl.1.trans hml.symm) d_BN_message_31 d_BN_message_34 d_BN_message_35 d_BN_message_38 hno (by decide) (Nat.le_of_ble_eq_true rfl) (by decide) (by decide) hlk rfl (by decide)
    · refine lv_iload_n C.1 C.2.1 d_BN_message_26 rfl (lv_at hl 3 rfl) ?_
      refine lv_iconst (v := 5) C.1 C.2.1 d_BN_message_27 (by decide) ?_
      refine lv_icmp_lt (tgt := 39) C.1 C.2.1 d_BN_message_28 (by decide) (fun h3 => ?_) (fun h3 => ?_)
      · refine lv_aload_n C.1 C.2.1 d_BN_message_39 rfl (lv_at hl 1 rfl) ?_
        refine xget C hP o_BN rfl c_BN (k := 4) (v := .ref (b + 5)) (by decide) wg_382 rfl d_BN_message_40 ?_
        refine xgetN C hP o_PO rfl c_PO (k := 0) (v := .ref (b + 6)) (by decide) wn_96 rfl d_BN_message_43 ?_
        refine lv_iload_n C.1 C.2.1 d_BN_message_46 rfl (lv_at hl 0 rfl) ?_
        refine xaald C hP o_sa rfl (E := R_ME) rfl (v := b + (7 + (st 6 ((f_PO_indexOf st a1)).toNatClampNeg 0).toNatClampNeg)) (rm_in hp (ix_ok hp h1).1 (ix_ok hp h1).2) rfl d_BN_message_47 ?_
        refine lv_iload_n C.1 C.2.1 d_BN_message_48 rfl (lv_at hl 3 rfl) ?_
        refine xcVNi (rest := []) C hml hl.1 (k_ME_fact l D cA b st (7 + (st 6 ((f_PO_indexOf st a1)).toNatClampNeg 0).toNatClampNeg) (st 6 ((f_PO_indexOf st a1)).toNatClampNeg 0).toNatClampNeg (o_ME (hp.2.2 _ (xin_lt (rm_in hp (ix_ok hp h1).1 (ix_ok hp h1).2)))) a2) q_ME_fact rfl rfl wn_862 wg_864 ws_51 ⟨Nat.le_of_ble_eq_true rfl, Nat.le_of_ble_eq_true rfl⟩ hP hS (o_ME (hp.2.2 _ (xin_lt (rm_in hp (ix_ok hp h1).1 (ix_ok hp h1).2)))) rfl c_ME rfl (Nat.le_of_ble_eq_true rfl) d_BN_message_49 rfl (fun H locs hP hS => ?_)
        rw [show (f_BN_message st a1 a2) = (0, (f_ME_fact st (st 6 ((f_PO_indexOf st a1)).toNatClampNeg 0).toNatClampNeg a2), st) from by rw [f_BN_message, if_neg h1, if_neg h2, if_pos h3]]
        exact xrtp C hlk hr hP hS d_BN_message_52
      · rw [show (f_BN_message st a1 a2) = (3, 0, st) from by rw [f_BN_message, if_neg h1, if_neg h2, if_neg h3]]
        exact xthrow C hlt (names := nmR) (ex := 3) (by decide) (by decide) th_3 wg_778 wg_19 wg_779 hT hP hS (hl.1.trans hml.symm) d_BN_message_31 d_BN_message_34 d_BN_message_35 d_BN_message_38 hno (by decide) (Nat.le_of_ble_eq_true rfl) (by decide) (by decide) hlk rfl (by decide)
  · rw [show (f_BN_message st a1 a2) = (4, 0, st) from by rw [f_BN_message, if_pos h1]]
    exact xthrow C hlt (names := nmR) (ex := 4) (by decide) (by decide) th_4 wg_793 wg_20 wg_794 hT hP hS (hl.1.trans hml.symm) d_BN_message_14 d_BN_message_17 d_BN_message_18 d_BN_message_21 hno (by decide) (Nat.le_of_ble_eq_true rfl) (by decide) (by decide) hlk rfl (by decide)
