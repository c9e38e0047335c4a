def f_MO_restart (st : XS) (a1 : Int32) : XS × Int32 :=
  if (f_MO_isAt (xu st 0 0 0 0) a1 2) = 0 then ((xu st 0 0 0 0), 0)
  else ((f_MO_settle (f_MO_forget (xu (xu st 0 0 0 0) 4 a1.toNatClampNeg 0 ((st 4 a1.toNatClampNeg 0) + 1)) a1)), 1)
set_option maxRecDepth 100000 in
set_option maxHeartbeats 4000000 in
theorem z_MO_restart {st : XS} {a1 : Int32} : bz (f_MO_restart st a1).2 = (f_MO_restart st a1).2 := by
  unfold f_MO_restart
  repeat' split
  all_goals first | with_reducible exact bz_0 | with_reducible exact bz_1 | with_reducible exact bz_bz _ | with_reducible exact z_MO_isAt
set_option maxRecDepth 100000 in
set_option maxHeartbeats 4000000 in
theorem fr_MO_restart {st : XS} {a1 : Int32} {a' k' i' : Nat} (h : (a', k') ∉ ([(0, 0), (0, 2), (0, 3), (0, 39)] : List (Nat × Nat))) (h2 : a' ∉ ([4, 6, 7, 13, 14, 15, 23, 24, 27, 28, 29, 30, 31, 32, 36, 37, 38, 39, 40, 41, 42, 43] : List Nat)) : (f_MO_restart st a1).1 a' k' i' = st a' k' i' := by
  unfold f_MO_restart
  repeat' split
  all_goals (try dsimp only)
  all_goals (repeat (first | with_reducible rfl | rw [xu_f (fun e => h (by rw [e]; decide))] | rw [xu_a (fun e => h2 (by rw [e]; decide))] | rw [fr_MO_forget (fun q => h ((by decide : ∀ z ∈ ([] : List (Nat × Nat)), z ∈ ([(0, 0), (0, 2), (0, 3), (0, 39)] : List (Nat × Nat))) _ q)) (fun q => h2 ((by decide : ∀ z ∈ ([6, 7, 13, 14, 15, 23, 24, 27, 28, 29, 30, 31] : List Nat), z ∈ ([4, 6, 7, 13, 14, 15, 23, 24, 27, 28, 29, 30, 31, 32, 36, 37, 38, 39, 40, 41, 42, 43] : List Nat)) _ q))] | rw [fr_MO_settle (fun q => h ((by decide : ∀ z ∈ ([(0, 2), (0, 3), (0, 39)] : List (Nat × Nat)), z ∈ ([(0, 0), (0, 2), (0, 3), (0, 39)] : List (Nat × Nat))) _ q)) (fun q => h2 ((by decide : ∀ z ∈ ([30, 31, 32, 36, 37, 38, 39, 40, 41, 42, 43] : List Nat), z ∈ ([4, 6, 7, 13, 14, 15, 23, 24, 27, 28, 29, 30, 31, 32, 36, 37, 38, 39, 40, 41, 42, 43] : List Nat)) _ q))]))
theorem p_MO_restart {st : XS} {a1 : Int32} (h : qok st) : qok (f_MO_restart st a1).1 := by
  unfold f_MO_restart
  repeat' split
  all_goals (try dsimp only)
  all_goals (repeat (first | with_reducible assumption | with_reducible refine p_MO_forget ?_ | with_reducible refine p_MO_settle ?_ | with_reducible refine qok_xa ?_ (by decide) | with_reducible refine qok_xu ?_ ?_ | decide))
set_option maxRecDepth 100000 in
set_option maxHeartbeats 4000000 in
theorem k_MO_restart (l : Launch) (D : va_G) (cA : Nat → ClassId) (b : Nat) (st : XS) (a1 : Int32) (hq : qok st) (hc : cok st) : xMi mw D cA b l y_MO_restart (Cond.code y_MO_restart b_MO_restart 2 (some .boolean)) { frames := 3, cells := 0, slots := 0, locals := 65 } st [.ref (b + 0), .int a1] (f_MO_restart st a1).2 (f_MO_restart st a1).1 := by
  refine xMi_of rfl (by decide) (Nat.le_of_ble_eq_true rfl) ?_
  intro p e s m below meth c ls C hlk hr hml hl hP hS
  have hl : lv_has ls 2 [(0, .ref (b + 0)), (1, .int a1)] := hl
  refine lv_aload_n C.1 C.2.1 d_MO_restart_0 rfl (lv_at hl 0 rfl) ?_
  refine lv_iconst (v := 0) C.1 C.2.1 d_MO_restart_1 (by decide) ?_
  refine xput mw_inj C hP hS o_MO rfl c_MO (k := 0) (x := 0) (by decide) wg_877 rfl rfl rfl rfl d_MO_restart_2 (fun H locs hP hS => ?_)
  refine lv_aload_n C.1 C.2.1 d_MO_restart_5 rfl (lv_at hl 0 rfl) ?_
  refine lv_iload_n C.1 C.2.1 d_MO_restart_6 rfl (lv_at hl 1 rfl) ?_
  refine lv_iconst (v := 2) C.1 C.2.1 d_MO_restart_7 (by decide) ?_
  refine xcVi (rest := []) C hml hl.1 (k_MO_isAt l D cA b (xu st 0 0 0 0) a1 2) q_MO_isAt rfl rfl wg_1083 wg_1085 ws_53 ⟨Nat.le_of_ble_eq_true rfl, Nat.le_of_ble_eq_true rfl⟩ hP hS o_MO rfl c_MO rfl (Nat.le_of_ble_eq_true rfl) d_MO_restart_8 rfl (fun H locs hP hS => ?_)
  refine lv_if_ne (tgt := 16) C.1 C.2.1 d_MO_restart_11 (by decide) (fun h1 => ?_) (fun h1 => ?_)
  · refine lv_aload_n C.1 C.2.1 d_MO_restart_16 rfl (lv_at hl 0 rfl) ?_
    refine xget C hP o_MO rfl c_MO (k := 7) (v := .ref (b + 4)) (by decide) wg_884 rfl d_MO_restart_17 ?_
    refine lv_iload_n C.1 C.2.1 d_MO_restart_20 rfl (lv_at hl 1 rfl) ?_
    refine lv_dup2_11 C.1 C.2.1 d_MO_restart_21 rfl rfl ?_
    refine xiald C hP om_4 rfl (v := (st 4 a1.toNatClampNeg 0)) (vm_isAt h1) (congrArg Value.int (xu_a (by decide))) d_MO_restart_22 ?_
    refine lv_iconst (v := 1) C.1 C.2.1 d_MO_restart_23 (by decide) ?_
    refine lv_iadd C.1 C.2.1 d_MO_restart_24 ?_
    refine xiast mw_inj C hP hS om_4 rfl (vm_isAt h1) rfl d_MO_restart_25 (fun H locs hP hS => ?_)
    refine lv_aload_n C.1 C.2.1 d_MO_restart_26 rfl (lv_at hl 0 rfl) ?_
    refine lv_iload_n C.1 C.2.1 d_MO_restart_27 rfl (lv_at hl 1 rfl) ?_
    refine xcVv (rest := []) C hml hl.1 (k_MO_forget l D cA b (xu (xu st 0 0 0 0) 4 a1.toNatClampNeg 0 ((st 4 a1.toNatClampNeg 0) + 1)) a1 (vm_isAt h1)) q_MO_forget rfl rfl wg_872 wg_874 ws_52 ⟨Nat.le_of_ble_eq_true rfl, Nat.le_of_ble_eq_true rfl⟩ hP hS o_MO rfl c_MO rfl (Nat.le_of_ble_eq_true rfl) d_MO_restart_28 rfl (fun H locs hP hS => ?_)
    refine lv_aload_n C.1 C.2.1 d_MO_restart_31 rfl (lv_at hl 0 rfl) ?_
    refine xcVv (rest := []) C hml hl.1 (k_MO_settle l D cA b (f_MO_forget (xu (xu st 0 0 0 0) 4 a1.toNatClampNeg 0 ((st 4 a1.toNatClampNeg 0) + 1)) a1) (qok_of (qok_xa (qok_xu hq (by decide)) (by decide)) (fr_MO_forget (by decide) (by decide))) (cok_of (cok_of (cok_of hc (fun _ => xu_a (by decide))) (fun _ => xu_a (by decide))) (fun _ => fr_MO_forget (by simp) (by decide)))) q_MO_settle rfl rfl wg_1119 wg_1121 ws_56 ⟨Nat.le_of_ble_eq_true rfl, Nat.le_of_ble_eq_true rfl⟩ hP hS o_MO rfl c_MO rfl (Nat.le_of_ble_eq_true rfl) d_MO_restart_32 rfl (fun H locs hP hS => ?_)
    refine lv_iconst (v := 1) C.1 C.2.1 d_MO_restart_35 (by decide) ?_
    exact xrz C hlk hr bz_1 hP hS d_MO_restart_36 ⟨by rw [f_MO_restart, if_neg h1], by rw [f_MO_restart, if_neg h1]⟩
  · refine lv_iconst (v := 0) C.1 C.2.1 d_MO_restart_14 (by decide) ?_
    exact xrz C hlk hr bz_0 hP hS d_MO_restart_15 ⟨by rw [f_MO_restart, if_pos h1], by rw [f_MO_restart, if_pos h1]⟩
