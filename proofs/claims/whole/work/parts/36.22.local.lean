def f_MO_local (st : XS) (a1 : Int32) (a2 : Int32) (a3 : Int32) : XS × Int32 :=
  if (f_MO_isAt (xu st 0 0 0 0) a1 2) = 0 then ((xu st 0 0 0 0), 0)
  else if (bz (st 8 a1.toNatClampNeg 0)) = 0 then ((xu st 0 0 0 0), 0)
  else if a2 = (-1) then ((f_MO_settle (xu (xu st 0 0 0 0) 7 a1.toNatClampNeg 0 a3)), 1)
  else if (bz (st 7 a1.toNatClampNeg 0)) = 0 then (if (f_MO_fits a2 (st 9 a1.toNatClampNeg 0) (st 10 a1.toNatClampNeg 0) (st 11 a1.toNatClampNeg 0)) = 0 then ((xu st 0 0 0 0), 0)
    else ((f_MO_settle (xu (xu st 0 0 0 0) 12 a1.toNatClampNeg 0 a2)), 1))
  else ((xu st 0 0 0 0), 0)
set_option maxRecDepth 100000 in
set_option maxHeartbeats 4000000 in
theorem z_MO_local {st : XS} {a1 : Int32} {a2 : Int32} {a3 : Int32} : bz (f_MO_local st a1 a2 a3).2 = (f_MO_local st a1 a2 a3).2 := by
  unfold f_MO_local
  repeat' split
  all_goals first | with_reducible exact bz_0 | with_reducible exact bz_1 | with_reducible exact bz_bz _ | with_reducible exact z_MO_fits | with_reducible exact z_MO_isAt
set_option maxRecDepth 100000 in
set_option maxHeartbeats 4000000 in
theorem fr_MO_local {st : XS} {a1 : Int32} {a2 : Int32} {a3 : Int32} {a' k' i' : Nat} (h : (a', k') ∉ ([(0, 0), (0, 2), (0, 3), (0, 39)] : List (Nat × Nat))) (h2 : a' ∉ ([7, 12, 30, 31, 32, 36, 37, 38, 39, 40, 41, 42, 43] : List Nat)) : (f_MO_local st a1 a2 a3).1 a' k' i' = st a' k' i' := by
  unfold f_MO_local
  repeat' split
  all_goals (try dsimp only)
  all_goals (repeat (first | with_reducible rfl | rw [xu_f (fun e => h (by rw [e]; decide))] | rw [xu_a (fun e => h2 (by rw [e]; decide))] | rw [fr_MO_settle (fun q => h ((by decide : ∀ z ∈ ([(0, 2), (0, 3), (0, 39)] : List (Nat × Nat)), z ∈ ([(0, 0), (0, 2), (0, 3), (0, 39)] : List (Nat × Nat))) _ q)) (fun q => h2 ((by decide : ∀ z ∈ ([30, 31, 32, 36, 37, 38, 39, 40, 41, 42, 43] : List Nat), z ∈ ([7, 12, 30, 31, 32, 36, 37, 38, 39, 40, 41, 42, 43] : List Nat)) _ q))]))
theorem p_MO_local {st : XS} {a1 : Int32} {a2 : Int32} {a3 : Int32} (h : qok st) : qok (f_MO_local st a1 a2 a3).1 := by
  unfold f_MO_local
  repeat' split
  all_goals (try dsimp only)
  all_goals (repeat (first | with_reducible assumption | with_reducible refine p_MO_settle ?_ | with_reducible refine qok_xa ?_ (by decide) | with_reducible refine qok_xu ?_ ?_ | decide))
set_option maxRecDepth 100000 in
set_option maxHeartbeats 4000000 in
theorem k_MO_local (l : Launch) (D : va_G) (cA : Nat → ClassId) (b : Nat) (st : XS) (a1 : Int32) (a2 : Int32) (a3 : Int32) (hq : qok st) (hc : cok st) (hs : ¬ (f_MO_isAt (xu st 0 0 0 0) a1 2) = 0 → ¬ (bz (st 8 a1.toNatClampNeg 0)) = 0 → ¬ (st 11 a1.toNatClampNeg 0) = 0) : xMi mw D cA b l y_MO_local (Cond.code y_MO_local b_MO_local 4 (some .boolean)) { frames := 3, cells := 0, slots := 0, locals := 65 } st [.ref (b + 0), .int a1, .int a2, .int a3] (f_MO_local st a1 a2 a3).2 (f_MO_local st a1 a2 a3).1 := by
  refine xMi_of rfl (by decide) (Nat.le_of_ble_eq_true rfl) ?_
  intro p e s m below meth c ls C hlk hr hml hl hP hS
  have hl : lv_has ls 4 [(0, .ref (b + 0)), (1, .int a1), (2, .int a2), (3, .int a3)] := hl
  refine lv_aload_n C.1 C.2.1 d_MO_local_0 rfl (lv_at hl 0 rfl) ?_
  refine lv_iconst (v := 0) C.1 C.2.1 d_MO_local_1 (by decide) ?_
  refine xput mw_inj C hP hS o_MO rfl c_MO (k := 0) (x := 0) (by decide) wg_877 rfl rfl rfl rfl d_MO_local_2 (fun H locs hP hS => ?_)
  refine lv_aload_n C.1 C.2.1 d_MO_local_5 rfl (lv_at hl 0 rfl) ?_
  refine lv_iload_n C.1 C.2.1 d_MO_local_6 rfl (lv_at hl 1 rfl) ?_
  refine lv_iconst (v := 2) C.1 C.2.1 d_MO_local_7 (by decide) ?_
  refine xcVi (rest := []) C hml hl.1 (k_MO_isAt l D cA b (xu st 0 0 0 0) a1 2) q_MO_isAt rfl rfl wg_1083 wg_1085 ws_53 ⟨Nat.le_of_ble_eq_true rfl, Nat.le_of_ble_eq_true rfl⟩ hP hS o_MO rfl c_MO rfl (Nat.le_of_ble_eq_true rfl) d_MO_local_8 rfl (fun H locs hP hS => ?_)
  refine lv_if_eq (tgt := 23) C.1 C.2.1 d_MO_local_11 (by decide) (fun h1 => ?_) (fun h1 => ?_)
  · refine lv_iconst (v := 0) C.1 C.2.1 d_MO_local_23 (by decide) ?_
    exact xrz C hlk hr bz_0 hP hS d_MO_local_24 ⟨by rw [f_MO_local, if_pos h1], by rw [f_MO_local, if_pos h1]⟩
  · refine lv_aload_n C.1 C.2.1 d_MO_local_14 rfl (lv_at hl 0 rfl) ?_
    refine xget C hP o_MO rfl c_MO (k := 11) (v := .ref (b + 8)) (by decide) wg_888 rfl d_MO_local_15 ?_
    refine lv_iload_n C.1 C.2.1 d_MO_local_18 rfl (lv_at hl 1 rfl) ?_
    refine xzald C hP om_8 rfl (v := (bz (st 8 a1.toNatClampNeg 0))) (vm_isAt h1) (congrArg (fun z => Value.int (bz z)) (xu_a (by decide))) d_MO_local_19 ?_
    refine lv_if_ne (tgt := 25) C.1 C.2.1 d_MO_local_20 (by decide) (fun h2 => ?_) (fun h2 => ?_)
    · refine lv_iload_n C.1 C.2.1 d_MO_local_25 rfl (lv_at hl 2 rfl) ?_
      refine lv_iconst (v := (-1)) C.1 C.2.1 d_MO_local_26 (by decide) ?_
      refine lv_icmp_eq (tgt := 76) C.1 C.2.1 d_MO_local_27 (by decide) (fun h3 => ?_) (fun h3 => ?_)
      · refine lv_aload_n C.1 C.2.1 d_MO_local_76 rfl (lv_at hl 0 rfl) ?_
        refine xget C hP o_MO rfl c_MO (k := 10) (v := .ref (b + 7)) (by decide) wg_887 rfl d_MO_local_77 ?_
        refine lv_iload_n C.1 C.2.1 d_MO_local_80 rfl (lv_at hl 1 rfl) ?_
        refine lv_iload_n C.1 C.2.1 d_MO_local_81 rfl (lv_at hl 3 rfl) ?_
        refine xzast mw_inj C hP hS om_7 rfl (vm_isAt h1) rfl d_MO_local_82 (fun H locs hP hS => ?_)
        refine lv_aload_n C.1 C.2.1 d_MO_local_83 rfl (lv_at hl 0 rfl) ?_
        refine xcVv (rest := []) C hml hl.1 (k_MO_settle l D cA b (xu (xu st 0 0 0 0) 7 a1.toNatClampNeg 0 a3) (qok_xa (qok_xu hq (by decide)) (by decide)) (cok_of (cok_of hc (fun _ => xu_a (by decide))) (fun _ => xu_a (by decide)))) q_MO_settle rfl rfl wg_1119 wg_1121 ws_56 ⟨Nat.le_of_ble_eq_true rfl, Nat.le_of_ble_eq_true rfl⟩ hP hS o_MO rfl c_MO rfl (Nat.le_of_ble_eq_true rfl) d_MO_local_84 rfl (fun H locs hP hS => ?_)
        refine lv_iconst (v := 1) C.1 C.2.1 d_MO_local_87 (by decide) ?_
        exact xrz C hlk hr bz_1 hP hS d_MO_local_88 ⟨by rw [f_MO_local, if_neg h1, if_neg h2, if_pos h3], by rw [f_MO_local, if_neg h1, if_neg h2, if_pos h3]⟩
      · refine lv_aload_n C.1 C.2.1 d_MO_local_30 rfl (lv_at hl 0 rfl) ?_
        refine xget C hP o_MO rfl c_MO (k := 10) (v := .ref (b + 7)) (by decide) wg_887 rfl d_MO_local_31 ?_
        refine lv_iload_n C.1 C.2.1 d_MO_local_34 rfl (lv_at hl 1 rfl) ?_
        refine xzald C hP om_7 rfl (v := (bz (st 7 a1.toNatClampNeg 0))) (vm_isAt h1) (congrArg (fun z => Value.int (bz z)) (xu_a (by decide))) d_MO_local_35 ?_
        refine lv_if_ne (tgt := 64) C.1 C.2.1 d_MO_local_36 (by decide) (fun h4 => ?_) (fun h4 => ?_)
        · refine lv_iconst (v := 0) C.1 C.2.1 d_MO_local_64 (by decide) ?_
          exact xrz C hlk hr bz_0 hP hS d_MO_local_65 ⟨by rw [f_MO_local, if_neg h1, if_neg h2, if_neg h3, if_neg h4], by rw [f_MO_local, if_neg h1, if_neg h2, if_neg h3, if_neg h4]⟩
        · refine lv_iload_n C.1 C.2.1 d_MO_local_39 rfl (lv_at hl 2 rfl) ?_
          refine lv_aload_n C.1 C.2.1 d_MO_local_40 rfl (lv_at hl 0 rfl) ?_
          refine xget C hP o_MO rfl c_MO (k := 12) (v := .ref (b + 9)) (by decide) wg_889 rfl d_MO_local_41 ?_
          refine lv_iload_n C.1 C.2.1 d_MO_local_44 rfl (lv_at hl 1 rfl) ?_
          refine xiald C hP om_9 rfl (v := (st 9 a1.toNatClampNeg 0)) (vm_isAt h1) (congrArg Value.int (xu_a (by decide))) d_MO_local_45 ?_
          refine lv_aload_n C.1 C.2.1 d_MO_local_46 rfl (lv_at hl 0 rfl) ?_
          refine xget C hP o_MO rfl c_MO (k := 13) (v := .ref (b + 10)) (by decide) wg_890 rfl d_MO_local_47 ?_
          refine lv_iload_n C.1 C.2.1 d_MO_local_50 rfl (lv_at hl 1 rfl) ?_
          refine xiald C hP om_10 rfl (v := (st 10 a1.toNatClampNeg 0)) (vm_isAt h1) (congrArg Value.int (xu_a (by decide))) d_MO_local_51 ?_
          refine lv_aload_n C.1 C.2.1 d_MO_local_52 rfl (lv_at hl 0 rfl) ?_
          refine xget C hP o_MO rfl c_MO (k := 14) (v := .ref (b + 11)) (by decide) wg_891 rfl d_MO_local_53 ?_
          refine lv_iload_n C.1 C.2.1 d_MO_local_56 rfl (lv_at hl 1 rfl) ?_
          refine xiald C hP om_11 rfl (v := (st 11 a1.toNatClampNeg 0)) (vm_isAt h1) (congrArg Value.int (xu_a (by decide))) d_MO_local_57 ?_
          refine xcSi (rest := []) C hml hl.1 (k_MO_fits l D cA b (xu st 0 0 0 0) a2 (st 9 a1.toNatClampNeg 0) (st 10 a1.toNatClampNeg 0) (st 11 a1.toNatClampNeg 0) (hs h1 h2)) q_MO_fits rfl rfl wg_1151 wg_1152 ⟨Nat.le_of_ble_eq_true rfl, Nat.le_of_ble_eq_true rfl⟩ hP hS rfl (Nat.le_of_ble_eq_true rfl) d_MO_local_58 rfl (fun H locs hP hS => ?_)
          refine lv_if_ne (tgt := 66) C.1 C.2.1 d_MO_local_61 (by decide) (fun h5 => ?_) (fun h5 => ?_)
          · refine lv_aload_n C.1 C.2.1 d_MO_local_66 rfl (lv_at hl 0 rfl) ?_
            refine xget C hP o_MO rfl c_MO (k := 15) (v := .ref (b + 12)) (by decide) wg_892 rfl d_MO_local_67 ?_
            refine lv_iload_n C.1 C.2.1 d_MO_local_70 rfl (lv_at hl 1 rfl) ?_
            refine lv_iload_n C.1 C.2.1 d_MO_local_71 rfl (lv_at hl 2 rfl) ?_
            refine xiast mw_inj C hP hS om_12 rfl (vm_isAt h1) rfl d_MO_local_72 (fun H locs hP hS => ?_)
            refine lv_goto (tgt := 83) C.1 C.2.1 d_MO_local_73 (by decide) ?_
            refine lv_aload_n C.1 C.2.1 d_MO_local_83 rfl (lv_at hl 0 rfl) ?_
            refine xcVv (rest := []) C hml hl.1 (k_MO_settle l D cA b (xu (xu st 0 0 0 0) 12 a1.toNatClampNeg 0 a2) (qok_xa (qok_xu hq (by decide)) (by decide)) (cok_of (cok_of hc (fun _ => xu_a (by decide))) (fun _ => xu_a (by decide)))) q_MO_settle rfl rfl wg_1119 wg_1121 ws_56 ⟨Nat.le_of_ble_eq_true rfl, Nat.le_of_ble_eq_true rfl⟩ hP hS o_MO rfl c_MO rfl (Nat.le_of_ble_eq_true rfl) d_MO_local_84 rfl (fun H locs hP hS => ?_)
            refine lv_iconst (v := 1) C.1 C.2.1 d_MO_local_87 (by decide) ?_
            exact xrz C hlk hr bz_1 hP hS d_MO_local_88 ⟨by rw [f_MO_local, if_neg h1, if_neg h2, if_neg h3, if_pos h4, if_neg h5], by rw [f_MO_local, if_neg h1, if_neg h2, if_neg h3, if_pos h4, if_neg h5]⟩
          · refine lv_iconst (v := 0) C.1 C.2.1 d_MO_local_64 (by decide) ?_
            exact xrz C hlk hr bz_0 hP hS d_MO_local_65 ⟨by rw [f_MO_local, if_neg h1, if_neg h2, if_neg h3, if_pos h4, if_pos h5], by rw [f_MO_local, if_neg h1, if_neg h2, if_neg h3, if_pos h4, if_pos h5]⟩
    · refine lv_iconst (v := 0) C.1 C.2.1 d_MO_local_23 (by decide) ?_
      exact xrz C hlk hr bz_0 hP hS d_MO_local_24 ⟨by rw [f_MO_local, if_neg h1, if_pos h2], by rw [f_MO_local, if_neg h1, if_pos h2]⟩
