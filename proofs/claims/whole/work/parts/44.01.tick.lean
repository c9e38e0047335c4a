def f_BN_tick (st : XS) (a1 : Int32) : Nat × Int32 × XS :=
  if a1 < 1 then (1, 0, st)
  else if 10000 < a1 then (1, 0, st)
  else if (st 0 8 0) ≤ (1000000000 - a1) then (0, (((f_BN_repeatSounds (f_BN_settleAlarms (f_BN_repeatValues (xu st 0 8 0 ((st 0 8 0) + a1))))) 5 2 0) - (st 5 2 0)), (f_BN_repeatSounds (f_BN_settleAlarms (f_BN_repeatValues (xu st 0 8 0 ((st 0 8 0) + a1))))))
  else (1, 0, st)
set_option maxRecDepth 100000 in
set_option maxHeartbeats 4000000 in
theorem fr_BN_tick {st : XS} {a1 : Int32} {a' k' i' : Nat} (h : (a', k') ∉ ([(0, 8), (5, 1), (5, 2), (5, 3), (7, 0), (7, 1), (7, 2), (7, 3), (7, 4), (7, 5), (7, 6), (7, 7), (8, 8), (12, 8), (13, 7), (13, 8), (13, 9)] : List (Nat × Nat))) (h2 : a' ∉ ([] : List Nat)) : (f_BN_tick st a1).2.2 a' k' i' = st a' k' i' := by
  unfold f_BN_tick
  repeat' split
  all_goals (try dsimp only)
  all_goals (repeat (first | with_reducible rfl | rw [xu_f (fun e => h (by rw [e]; decide))] | rw [fr_BN_repeatSounds (fun q => h ((by decide : ∀ z ∈ ([(5, 1), (5, 2), (5, 3), (7, 0), (7, 1), (7, 2), (7, 3), (7, 4), (7, 5), (7, 6), (7, 7), (8, 8)] : List (Nat × Nat)), z ∈ ([(0, 8), (5, 1), (5, 2), (5, 3), (7, 0), (7, 1), (7, 2), (7, 3), (7, 4), (7, 5), (7, 6), (7, 7), (8, 8), (12, 8), (13, 7), (13, 8), (13, 9)] : List (Nat × Nat))) _ q)) (fun q => h2 ((by decide : ∀ z ∈ ([] : List Nat), z ∈ ([] : List Nat)) _ q))] | rw [fr_BN_repeatValues (fun q => h ((by decide : ∀ z ∈ ([(5, 1), (5, 2), (5, 3), (7, 0), (7, 1), (7, 2), (7, 3), (7, 4), (7, 5), (7, 6), (7, 7), (12, 8)] : List (Nat × Nat)), z ∈ ([(0, 8), (5, 1), (5, 2), (5, 3), (7, 0), (7, 1), (7, 2), (7, 3), (7, 4), (7, 5), (7, 6), (7, 7), (8, 8), (12, 8), (13, 7), (13, 8), (13, 9)] : List (Nat × Nat))) _ q)) (fun q => h2 ((by decide : ∀ z ∈ ([] : List Nat), z ∈ ([] : List Nat)) _ q))] | rw [fr_BN_settleAlarms (fun q => h ((by decide : ∀ z ∈ ([(5, 1), (5, 2), (5, 3), (7, 0), (7, 1), (7, 2), (7, 3), (7, 4), (7, 5), (7, 6), (7, 7), (13, 7), (13, 8), (13, 9)] : List (Nat × Nat)), z ∈ ([(0, 8), (5, 1), (5, 2), (5, 3), (7, 0), (7, 1), (7, 2), (7, 3), (7, 4), (7, 5), (7, 6), (7, 7), (8, 8), (12, 8), (13, 7), (13, 8), (13, 9)] : List (Nat × Nat))) _ q)) (fun q => h2 ((by decide : ∀ z ∈ ([] : List Nat), z ∈ ([] : List Nat)) _ q))]))
theorem p_BN_tick {st : XS} {a1 : Int32} (h : pok st) : pok (f_BN_tick st a1).2.2 := by
  unfold f_BN_tick
  repeat' split
  all_goals (try dsimp only)
  all_goals (repeat (first | with_reducible assumption | with_reducible refine p_BN_repeatSounds ?_ | with_reducible refine p_BN_repeatValues ?_ | with_reducible refine p_BN_settleAlarms ?_ | with_reducible refine pok_xu ?_ ?_ ?_ | with_reducible refine pok_x5 ?_ ?_ | decide))
set_option maxRecDepth 100000 in
set_option maxHeartbeats 4000000 in
theorem k_BN_tick (l : Launch) (hlt : l.stackTraces = false) (D : va_G) (cA : Nat → ClassId) (b : Nat) (st : XS) (a1 : Int32) (hp : pok st) (ho : dok st) : xMt cw D cA b l y_BN_tick (Cond.code y_BN_tick b_BN_tick 3 (some .int)) { frames := 6, cells := 1, slots := 6, locals := 94 } st [.ref (b + 0), .int a1] (f_BN_tick st a1).1 (f_BN_tick st a1).2.1 (f_BN_tick st a1).2.2 := by
  refine xMt_of rfl (by decide) (Nat.le_of_ble_eq_true rfl) ?_
  intro p e s m below meth c ls C hlk hr hml hl hP hS hT hno
  have hl : lv_has ls 3 [(0, .ref (b + 0)), (1, .int a1)] := hl
  refine lv_iload_n C.1 C.2.1 d_BN_tick_0 rfl (lv_at hl 1 rfl) ?_
  refine lv_iconst (v := 1) C.1 C.2.1 d_BN_tick_1 (by decide) ?_
  refine lv_icmp_lt (tgt := 23) C.1 C.2.1 d_BN_tick_2 (by decide) (fun h1 => ?_) (fun h1 => ?_)
  · rw [show (f_BN_tick st a1) = (1, 0, st) from by rw [f_BN_tick, if_pos h1]]
    exact xthrow C hlt (names := nmR) (ex := 1) (by decide) (by decide) th_1 wg_650 wg_16 wg_651 hT hP hS (hl.1.trans hml.symm) d_BN_tick_23 d_BN_tick_26 d_BN_tick_27 d_BN_tick_30 hno (by decide) (Nat.le_of_ble_eq_true rfl) (by decide) (by decide) hlk rfl (by decide)
  · refine lv_iload_n C.1 C.2.1 d_BN_tick_5 rfl (lv_at hl 1 rfl) ?_
    refine lv_sipush (v := 10000) C.1 C.2.1 d_BN_tick_6 (by decide) ?_
    refine lv_icmp_gt (tgt := 23) C.1 C.2.1 d_BN_tick_9 (by decide) (fun h2 => ?_) (fun h2 => ?_)
    · rw [show (f_BN_tick st a1) = (1, 0, st) from by rw [f_BN_tick, if_neg h1, if_pos h2]]
      exact xthrow C hlt (names := nmR) (ex := 1) (by decide) (by decide) th_1 wg_650 wg_16 wg_651 hT hP hS (hl.1.trans hml.symm) d_BN_tick_23 d_BN_tick_26 d_BN_tick_27 d_BN_tick_30 hno (by decide) (Nat.le_of_ble_eq_true rfl) (by decide) (by decide) hlk rfl (by decide)
    · refine lv_aload_n C.1 C.2.1 d_BN_tick_12 rfl (lv_at hl 0 rfl) ?_
      refine xget C hP o_BN rfl c_BN (k := 8) (v := .int (st 0 8 0)) (by decide) wg_386 rfl d_BN_tick_13 ?_
      refine lv_ldc (v := 1000000000) C.1 C.2.1 C.2.2.1 (C.2.2.2.1 _ wg_741) d_BN_tick_16 ?_
      refine lv_iload_n C.1 C.2.1 d_BN_tick_18 rfl (lv_at hl 1 rfl) ?_
      refine lv_isub C.1 C.2.1 d_BN_tick_19 ?_
      refine lv_icmp_le (tgt := 31) C.1 C.2.1 d_BN_tick_20 (by decide) (fun h3 => ?_) (fun h3 => ?_)
      · refine lv_aload_n C.1 C.2.1 d_BN_tick_31 rfl (lv_at hl 0 rfl) ?_
        refine xget C hP o_BN rfl c_BN (k := 4) (v := .ref (b + 5)) (by decide) wg_382 rfl d_BN_tick_32 ?_
        refine xgetN C hP o_PO rfl c_PO (k := 2) (v := .int (st 5 2 0)) (by decide) wn_100 rfl d_BN_tick_35 ?_
        refine lv_istore_n C.1 C.2.1 d_BN_tick_38 rfl hl (by decide) rfl (fun ls hl => ?_)
        have hl : lv_has ls 3 [(2, .int (st 5 2 0)), (0, .ref (b + 0)), (1, .int a1)] := hl
        refine lv_aload_n C.1 C.2.1 d_BN_tick_39 rfl (lv_at hl 1 rfl) ?_
        refine lv_dup C.1 C.2.1 d_BN_tick_40 rfl ?_
        refine xget C hP o_BN rfl c_BN (k := 8) (v := .int (st 0 8 0)) (by decide) wg_386 rfl d_BN_tick_41 ?_
        refine lv_iload_n C.1 C.2.1 d_BN_tick_44 rfl (lv_at hl 2 rfl) ?_
        refine lv_iadd C.1 C.2.1 d_BN_tick_45 ?_
        refine xput cw_inj C hP hS o_BN rfl c_BN (k := 8) (x := ((st 0 8 0) + a1)) (by decide) wg_386 rfl rfl rfl rfl d_BN_tick_46 (fun H locs hP hS => ?_)
        refine lv_aload_n C.1 C.2.1 d_BN_tick_49 rfl (lv_at hl 1 rfl) ?_
        refine xcVv (rest := []) C hml hl.1 (k_BN_repeatValues l D cA b (xu st 0 8 0 ((st 0 8 0) + a1)) (pok_xu hp (by decide) (by decide)) (dok_of ho (fun _ => xu_a (by decide)))) q_BN_repeatValues rfl rfl wg_742 wg_744 ws_38 ⟨Nat.le_of_ble_eq_true rfl, Nat.le_of_ble_eq_true rfl⟩ hP hS o_BN rfl c_BN rfl (Nat.le_of_ble_eq_true rfl) d_BN_tick_50 rfl (fun H locs hP hS => ?_)
        refine lv_aload_n C.1 C.2.1 d_BN_tick_53 rfl (lv_at hl 1 rfl) ?_
        refine xcVv (rest := []) C hml hl.1 (k_BN_settleAlarms l D cA b (f_BN_repeatValues (xu st 0 8 0 ((st 0 8 0) + a1))) (p_BN_repeatValues (pok_xu hp (by decide) (by decide))) (dok_of (dok_of ho (fun _ => xu_a (by decide))) (fun _ => fr_BN_repeatValues (by decide) (by decide)))) q_BN_settleAlarms rfl rfl wg_507 wg_509 ws_13 ⟨Nat.le_of_ble_eq_true rfl, Nat.le_of_ble_eq_true rfl⟩ hP hS o_BN rfl c_BN rfl (Nat.le_of_ble_eq_true rfl) d_BN_tick_54 rfl (fun H locs hP hS => ?_)
        refine lv_aload_n C.1 C.2.1 d_BN_tick_57 rfl (lv_at hl 1 rfl) ?_
        refine xcVv (rest := []) C hml hl.1 (k_BN_repeatSounds l D cA b (f_BN_settleAlarms (f_BN_repeatValues (xu st 0 8 0 ((st 0 8 0) + a1)))) (p_BN_settleAlarms (p_BN_repeatValues (pok_xu hp (by decide) (by decide)))) (dok_of (dok_of (dok_of ho (fun _ => xu_a (by decide))) (fun _ => fr_BN_repeatValues (by decide) (by decide))) (fun _ => fr_BN_settleAlarms (by decide) (by decide)))) q_BN_repeatSounds rfl rfl wg_746 wg_748 ws_39 ⟨Nat.le_of_ble_eq_true rfl, Nat.le_of_ble_eq_true rfl⟩ hP hS o_BN rfl c_BN rfl (Nat.le_of_ble_eq_true rfl) d_BN_tick_58 rfl (fun H locs hP hS => ?_)
        refine lv_aload_n C.1 C.2.1 d_BN_tick_61 rfl (lv_at hl 1 rfl) ?_
        refine xget C hP o_BN rfl c_BN (k := 4) (v := .ref (b + 5)) (by decide) wg_382 rfl d_BN_tick_62 ?_
        refine xgetN C hP o_PO rfl c_PO (k := 2) (v := .int ((f_BN_repeatSounds (f_BN_settleAlarms (f_BN_repeatValues (xu st 0 8 0 ((st 0 8 0) + a1))))) 5 2 0)) (by decide) wn_100 rfl d_BN_tick_65 ?_
        refine lv_iload_n C.1 C.2.1 d_BN_tick_68 rfl (lv_at hl 0 rfl) ?_
        refine lv_isub C.1 C.2.1 d_BN_tick_69 ?_
        rw [show (f_BN_tick st a1) = (0, (((f_BN_repeatSounds (f_BN_settleAlarms (f_BN_repeatValues (xu st 0 8 0 ((st 0 8 0) + a1))))) 5 2 0) - (st 5 2 0)), (f_BN_repeatSounds (f_BN_settleAlarms (f_BN_repeatValues (xu st 0 8 0 ((st 0 8 0) + a1)))))) from by rw [f_BN_tick, if_neg h1, if_neg h2, if_pos h3]]
        exact xrtp C hlk hr hP hS d_BN_tick_70
      · rw [show (f_BN_tick st a1) = (1, 0, st) from by rw [f_BN_tick, if_neg h1, if_neg h2, if_neg h3]]
        exact xthrow C hlt (names := nmR) (ex := 1) (by decide) (by decide) th_1 wg_650 wg_16 wg_651 hT hP hS (hl.1.trans hml.symm) d_BN_tick_23 d_BN_tick_26 d_BN_tick_27 d_BN_tick_30 hno (by decide) (Nat.le_of_ble_eq_true rfl) (by decide) (by decide) hlk rfl (by decide)
