def f_MO_move (st : XS) (a1 : Int32) (a2 : Int32) : XS × Int32 :=
  if (f_MO_isAt (xu st 0 0 0 0) a1 2) = 0 then ((xu st 0 0 0 0), 0)
  else if (f_MO_isBed a2) = 0 then ((xu st 0 0 0 0), 0)
  else ((f_MO_settle (f_MO_untie (xu (xu st 0 0 0 0) 3 a1.toNatClampNeg 0 a2) a1)), 1)
set_option maxRecDepth 100000 in
set_option maxHeartbeats 4000000 in
theorem z_MO_move {st : XS} {a1 : Int32} {a2 : Int32} : bz (f_MO_move st a1 a2).2 = (f_MO_move st a1 a2).2 := by
  unfold f_MO_move
  repeat' split
  all_goals first | with_reducible exact bz_0 | with_reducible exact bz_1 | with_reducible exact bz_bz _ | with_reducible exact z_MO_isAt | with_reducible exact z_MO_isBed
set_option maxRecDepth 100000 in
set_option maxHeartbeats 4000000 in
theorem fr_MO_move {st : XS} {a1 : Int32} {a2 : Int32} {a' k' i' : Nat} (h : (a', k') ∉ ([(0, 0), (0, 2), (0, 3), (0, 39)] : List (Nat × Nat))) (h2 : a' ∉ ([3, 6, 24, 30, 31, 32, 36, 37, 38, 39, 40, 41, 42, 43] : List Nat)) : (f_MO_move st a1 a2).1 a' k' i' = st a' k' i' := by
  unfold f_MO_move
  repeat' split
  all_goals (try dsimp only)
  all_goals (repeat (first | with_reducible rfl | rw [xu_f (fun e => h (by rw [e]; decide))] | rw [xu_a (fun e => h2 (by rw [e]; decide))] | rw [fr_MO_settle (fun q => h ((by decide : ∀ z ∈ ([(0, 2), (0, 3), (0, 39)] : List (Nat × Nat)), z ∈ ([(0, 0), (0, 2), (0, 3), (0, 39)] : List (Nat × Nat))) _ q)) (fun q => h2 ((by decide : ∀ z ∈ ([30, 31, 32, 36, 37, 38, 39, 40, 41, 42, 43] : List Nat), z ∈ ([3, 6, 24, 30, 31, 32, 36, 37, 38, 39, 40, 41, 42, 43] : List Nat)) _ q))] | rw [fr_MO_untie (fun q => h ((by decide : ∀ z ∈ ([] : List (Nat × Nat)), z ∈ ([(0, 0), (0, 2), (0, 3), (0, 39)] : List (Nat × Nat))) _ q)) (fun q => h2 ((by decide : ∀ z ∈ ([6, 24] : List Nat), z ∈ ([3, 6, 24, 30, 31, 32, 36, 37, 38, 39, 40, 41, 42, 43] : List Nat)) _ q))]))
theorem p_MO_move {st : XS} {a1 : Int32} {a2 : Int32} (h : qok st) : qok (f_MO_move st a1 a2).1 := by
  unfold f_MO_move
  repeat' split
  all_goals (try dsimp only)
  all_goals (repeat (first | with_reducible assumption | with_reducible refine p_MO_settle ?_ | with_reducible refine p_MO_untie ?_ | with_reducible refine qok_xa ?_ (by decide) | with_reducible refine qok_xu ?_ ?_ | decide))
set_option maxRecDepth 100000 in
set_option maxHeartbeats 4000000 in
theorem k_MO_move (l : Launch) (D : va_G) (cA : Nat → ClassId) (b : Nat) (st : XS) (a1 : Int32) (a2 : Int32) (hq : qok st) (hc : cok st) : xMi mw D cA b l y_MO_move (Cond.code y_MO_move b_MO_move 3 (some .boolean)) { frames := 3, cells := 0, slots := 0, locals := 65 } st [.ref (b + 0), .int a1, .int a2] (f_MO_move st a1 a2).2 (f_MO_move st a1 a2).1 := by
  refine xMi_of rfl (by decide) (Nat.le_of_ble_eq_true rfl) ?_
  intro p e s m below meth c ls C hlk hr hml hl hP hS
  have hl : lv_has ls 3 [(0, .ref (b + 0)), (1, .int a1), (2, .int a2)] := hl
  refine lv_aload_n C.1 C.2.1 d_MO_move_0 rfl (lv_at hl 0 rfl) ?_
  refine lv_iconst (v := 0) C.1 C.2.1 d_MO_move_1 (by decide) ?_
  refine xput mw_inj C hP hS o_MO rfl c_MO (k := 0) (x := 0) (by decide) wg_877 rfl rfl rfl rfl d_MO_move_2 (fun H locs hP hS => ?_)
  refine lv_aload_n C.1 C.2.1 d_MO_move_5 rfl (lv_at hl 0 rfl) ?_
  refine lv_iload_n C.1 C.2.1 d_MO_move_6 rfl (lv_at hl 1 rfl) ?_
  refine lv_iconst (v := 2) C.1 C.2.1 d_MO_move_7 (by decide) ?_
  refine xcVi (rest := []) C hml hl.1 (k_MO_isAt l D cA b (xu st 0 0 0 0) a1 2) q_MO_isAt rfl rfl wg_1083 wg_1085 ws_53 ⟨Nat.le_of_ble_eq_true rfl, Nat.le_of_ble_eq_true rfl⟩ hP hS o_MO rfl c_MO rfl (Nat.le_of_ble_eq_true rfl) d_MO_move_8 rfl (fun H locs hP hS => ?_)
  refine lv_if_eq (tgt := 21) C.1 C.2.1 d_MO_move_11 (by decide) (fun h1 => ?_) (fun h1 => ?_)
  · refine lv_iconst (v := 0) C.1 C.2.1 d_MO_move_21 (by decide) ?_
    exact xrz C hlk hr bz_0 hP hS d_MO_move_22 ⟨by rw [f_MO_move, if_pos h1], by rw [f_MO_move, if_pos h1]⟩
  · refine lv_iload_n C.1 C.2.1 d_MO_move_14 rfl (lv_at hl 2 rfl) ?_
    refine xcSi (rest := []) C hml hl.1 (k_MO_isBed l D cA b (xu st 0 0 0 0) a2) q_MO_isBed rfl rfl wg_1076 wg_1077 ⟨Nat.le_of_ble_eq_true rfl, Nat.le_of_ble_eq_true rfl⟩ hP hS rfl (Nat.le_of_ble_eq_true rfl) d_MO_move_15 rfl (fun H locs hP hS => ?_)
    refine lv_if_ne (tgt := 23) C.1 C.2.1 d_MO_move_18 (by decide) (fun h2 => ?_) (fun h2 => ?_)
    · refine lv_aload_n C.1 C.2.1 d_MO_move_23 rfl (lv_at hl 0 rfl) ?_
      refine xget C hP o_MO rfl c_MO (k := 6) (v := .ref (b + 3)) (by decide) wg_883 rfl d_MO_move_24 ?_
      refine lv_iload_n C.1 C.2.1 d_MO_move_27 rfl (lv_at hl 1 rfl) ?_
      refine lv_iload_n C.1 C.2.1 d_MO_move_28 rfl (lv_at hl 2 rfl) ?_
      refine xiast mw_inj C hP hS om_3 rfl (vm_isAt h1) rfl d_MO_move_29 (fun H locs hP hS => ?_)
      refine lv_aload_n C.1 C.2.1 d_MO_move_30 rfl (lv_at hl 0 rfl) ?_
      refine lv_iload_n C.1 C.2.1 d_MO_move_31 rfl (lv_at hl 1 rfl) ?_
      refine xcVv (rest := []) C hml hl.1 (k_MO_untie l D cA b (xu (xu st 0 0 0 0) 3 a1.toNatClampNeg 0 a2) a1 (vm_isAt h1)) q_MO_untie rfl rfl wg_1115 wg_1117 ws_55 ⟨Nat.le_of_ble_eq_true rfl, Nat.le_of_ble_eq_true rfl⟩ hP hS o_MO rfl c_MO rfl (Nat.le_of_ble_eq_true rfl) d_MO_move_32 rfl (fun H locs hP hS => ?_)
      refine lv_aload_n C.1 C.2.1 d_MO_move_35 rfl (lv_at hl 0 rfl) ?_
      refine xcVv (rest := []) C hml hl.1 (k_MO_settle l D cA b (f_MO_untie (xu (xu st 0 0 0 0) 3 a1.toNatClampNeg 0 a2) a1) (qok_of (qok_xa (qok_xu hq (by decide)) (by decide)) (fr_MO_untie (by decide) (by decide))) (cok_of (cok_of (cok_of hc (fun _ => xu_a (by decide))) (fun _ => xu_a (by decide))) (fun _ => fr_MO_untie (by simp) (by decide)))) q_MO_settle rfl rfl wg_1119 wg_1121 ws_56 ⟨Nat.le_of_ble_eq_true rfl, Nat.le_of_ble_eq_true rfl⟩ hP hS o_MO rfl c_MO rfl (Nat.le_of_ble_eq_true rfl) d_MO_move_36 rfl (fun H locs hP hS => ?_)
      refine lv_iconst (v := 1) C.1 C.2.1 d_MO_move_39 (by decide) ?_
      exact xrz C hlk hr bz_1 hP hS d_MO_move_40 ⟨by rw [f_MO_move, if_neg h1, if_neg h2], by rw [f_MO_move, if_neg h1, if_neg h2]⟩
    · refine lv_iconst (v := 0) C.1 C.2.1 d_MO_move_21 (by decide) ?_
      exact xrz C hlk hr bz_0 hP hS d_MO_move_22 ⟨by rw [f_MO_move, if_neg h1, if_pos h2], by rw [f_MO_move, if_neg h1, if_pos h2]⟩
