def f_MO_drop (st : XS) (a1 : Int32) : XS × Int32 :=
  if 0 ≤ (f_MO_find (xu st 0 0 0 0) a1) then ((f_MO_take (xu st 0 0 0 0) (f_MO_find (xu st 0 0 0 0) a1)), 1)
  else ((xu st 0 0 0 0), 0)
set_option maxRecDepth 100000 in
set_option maxHeartbeats 4000000 in
theorem z_MO_drop {st : XS} {a1 : Int32} : bz (f_MO_drop st a1).2 = (f_MO_drop st a1).2 := by
  unfold f_MO_drop
  repeat' split
  all_goals first | with_reducible exact bz_0 | with_reducible exact bz_1 | with_reducible exact bz_bz _
set_option maxRecDepth 100000 in
set_option maxHeartbeats 4000000 in
theorem fr_MO_drop {st : XS} {a1 : Int32} {a' k' i' : Nat} (h : (a', k') ∉ ([(0, 0), (0, 39)] : List (Nat × Nat))) (h2 : a' ∉ ([36, 37, 38, 39, 40, 41, 42, 43] : List Nat)) : (f_MO_drop st a1).1 a' k' i' = st a' k' i' := by
  unfold f_MO_drop
  repeat' split
  all_goals (try dsimp only)
  all_goals (repeat (first | with_reducible rfl | rw [xu_f (fun e => h (by rw [e]; decide))] | rw [xu_a (fun e => h2 (by rw [e]; decide))] | rw [fr_MO_take (fun q => h ((by decide : ∀ z ∈ ([(0, 39)] : List (Nat × Nat)), z ∈ ([(0, 0), (0, 39)] : List (Nat × Nat))) _ q)) (fun q => h2 ((by decide : ∀ z ∈ ([36, 37, 38, 39, 40, 41, 42, 43] : List Nat), z ∈ ([36, 37, 38, 39, 40, 41, 42, 43] : List Nat)) _ q))]))
set_option maxRecDepth 100000 in
set_option maxHeartbeats 4000000 in
theorem k_MO_drop (l : Launch) (D : va_G) (cA : Nat → ClassId) (b : Nat) (st : XS) (a1 : Int32) (hq : qok st) : xMi mw D cA b l y_MO_drop (Cond.code y_MO_drop b_MO_drop 3 (some .boolean)) { frames := 1, cells := 0, slots := 0, locals := 23 } st [.ref (b + 0), .int a1] (f_MO_drop st a1).2 (f_MO_drop st a1).1 := by
  refine xMi_of rfl (by decide) (Nat.le_of_ble_eq_true rfl) ?_
  intro p e s m below meth c ls C hlk hr hml hl hP hS
  have hl : lv_has ls 3 [(0, .ref (b + 0)), (1, .int a1)] := hl
  refine lv_aload_n C.1 C.2.1 d_MO_drop_0 rfl (lv_at hl 0 rfl) ?_
  refine lv_iconst (v := 0) C.1 C.2.1 d_MO_drop_1 (by decide) ?_
  refine xput mw_inj C hP hS o_MO rfl c_MO (k := 0) (x := 0) (by decide) wg_877 rfl rfl rfl rfl d_MO_drop_2 (fun H locs hP hS => ?_)
  refine lv_aload_n C.1 C.2.1 d_MO_drop_5 rfl (lv_at hl 0 rfl) ?_
  refine lv_iload_n C.1 C.2.1 d_MO_drop_6 rfl (lv_at hl 1 rfl) ?_
  refine xcVi (rest := []) C hml hl.1 (k_MO_find l D cA b (xu st 0 0 0 0) a1 (qok_xu hq (by decide))) q_MO_find rfl rfl wg_1175 wg_1177 ws_64 ⟨Nat.le_of_ble_eq_true rfl, Nat.le_of_ble_eq_true rfl⟩ hP hS o_MO rfl c_MO rfl (Nat.le_of_ble_eq_true rfl) d_MO_drop_7 rfl (fun H locs hP hS => ?_)
  refine lv_istore_n C.1 C.2.1 d_MO_drop_10 rfl hl (by decide) rfl (fun ls hl => ?_)
  have hl : lv_has ls 3 [(2, .int (f_MO_find (xu st 0 0 0 0) a1)), (0, .ref (b + 0)), (1, .int a1)] := hl
  refine lv_iload_n C.1 C.2.1 d_MO_drop_11 rfl (lv_at hl 0 rfl) ?_
  refine lv_if_ge (tgt := 17) C.1 C.2.1 d_MO_drop_12 (by decide) (fun h1 => ?_) (fun h1 => ?_)
  · refine lv_aload_n C.1 C.2.1 d_MO_drop_17 rfl (lv_at hl 1 rfl) ?_
    refine lv_iload_n C.1 C.2.1 d_MO_drop_18 rfl (lv_at hl 0 rfl) ?_
    refine xcVv (rest := []) C hml hl.1 (k_MO_take l D cA b (xu st 0 0 0 0) (f_MO_find (xu st 0 0 0 0) a1) (qok_xu hq (by decide)) (fi_lt (qok_xu hq (by decide)) h1).1 (fi_lt (qok_xu hq (by decide)) h1).2) q_MO_take rfl rfl wg_1179 wg_1181 ws_65 ⟨Nat.le_of_ble_eq_true rfl, Nat.le_of_ble_eq_true rfl⟩ hP hS o_MO rfl c_MO rfl (Nat.le_of_ble_eq_true rfl) d_MO_drop_19 rfl (fun H locs hP hS => ?_)
    refine lv_iconst (v := 1) C.1 C.2.1 d_MO_drop_22 (by decide) ?_
    exact xrz C hlk hr bz_1 hP hS d_MO_drop_23 ⟨by rw [f_MO_drop, if_pos h1], by rw [f_MO_drop, if_pos h1]⟩
  · refine lv_iconst (v := 0) C.1 C.2.1 d_MO_drop_15 (by decide) ?_
    exact xrz C hlk hr bz_0 hP hS d_MO_drop_16 ⟨by rw [f_MO_drop, if_neg h1], by rw [f_MO_drop, if_neg h1]⟩
