def f_MO_lease (st : XS) (a1 : Int32) (a2 : Int32) : XS × Int32 :=
  if (f_MO_isController a1) = 0 then ((xu st 0 0 0 0), 0)
  else if (f_MO_isAt (xu st 0 0 0 0) a2 2) = 0 then ((xu st 0 0 0 0), 0)
  else if (bz (st 8 a2.toNatClampNeg 0)) = 0 then ((xu st 0 0 0 0), 0)
  else if (f_MO_isLeased (xu st 0 0 0 0) a2) = 0 then ((f_MO_settle (xu (xu (xu st 0 0 0 0) 13 a2.toNatClampNeg 0 a1) 14 a2.toNatClampNeg 0 (st 0 1 0))), 1)
  else if (st 13 a2.toNatClampNeg 0) = a1 then ((f_MO_settle (xu (xu (xu st 0 0 0 0) 13 a2.toNatClampNeg 0 a1) 14 a2.toNatClampNeg 0 (st 0 1 0))), 1)
  else ((xu st 0 0 0 0), 0)
set_option maxRecDepth 100000 in
set_option maxHeartbeats 4000000 in
theorem z_MO_lease {st : XS} {a1 : Int32} {a2 : Int32} : bz (f_MO_lease st a1 a2).2 = (f_MO_lease st a1 a2).2 := by
  unfold f_MO_lease
  repeat' split
  all_goals first | with_reducible exact bz_0 | with_reducible exact bz_1 | with_reducible exact bz_bz _ | with_reducible exact z_MO_isAt | with_reducible exact z_MO_isController | with_reducible exact z_MO_isLeased
set_option maxRecDepth 100000 in
set_option maxHeartbeats 4000000 in
theorem fr_MO_lease {st : XS} {a1 : Int32} {a2 : Int32} {a' k' i' : Nat} (h : (a', k') ∉ ([(0, 0), (0, 2), (0, 3), (0, 39)] : List (Nat × Nat))) (h2 : a' ∉ ([13, 14, 30, 31, 32, 36, 37, 38, 39, 40, 41, 42, 43] : List Nat)) : (f_MO_lease st a1 a2).1 a' k' i' = st a' k' i' := by
  unfold f_MO_lease
  repeat' split
  all_goals (try dsimp only)
  all_goals (repeat (first | with_reducible rfl | rw [xu_f (fun e => h (by rw [e]; decide))] | rw [xu_a (fun e => h2 (by rw [e]; decide))] | rw [fr_MO_settle (fun q => h ((by decide : ∀ z ∈ ([(0, 2), (0, 3), (0, 39)] : List (Nat × Nat)), z ∈ ([(0, 0), (0, 2), (0, 3), (0, 39)] : List (Nat × Nat))) _ q)) (fun q => h2 ((by decide : ∀ z ∈ ([30, 31, 32, 36, 37, 38, 39, 40, 41, 42, 43] : List Nat), z ∈ ([13, 14, 30, 31, 32, 36, 37, 38, 39, 40, 41, 42, 43] : List Nat)) _ q))]))
theorem p_MO_lease {st : XS} {a1 : Int32} {a2 : Int32} (h : qok st) : qok (f_MO_lease st a1 a2).1 := by
  unfold f_MO_lease
  repeat' split
  all_goals (try dsimp only)
  all_goals (repeat (first | with_reducible assumption | with_reducible refine p_MO_settle ?_ | with_reducible refine qok_xa ?_ (by decide) | with_reducible refine qok_xu ?_ ?_ | decide))
set_option maxRecDepth 100000 in
set_option maxHeartbeats 4000000 in
theorem k_MO_lease (l : Launch) (D : va_G) (cA : Nat → ClassId) (b : Nat) (st : XS) (a1 : Int32) (a2 : Int32) (hq : qok st) (hc : cok st) : xMi mw D cA b l y_MO_lease (Cond.code y_MO_lease b_MO_lease 3 (some .boolean)) { frames := 3, cells := 0, slots := 0, locals := 65 } st [.ref (b + 0), .int a1, .int a2] (f_MO_lease st a1 a2).2 (f_MO_lease st a1 a2).1 := by
  refine xMi_of rfl (by decide) (Nat.le_of_ble_eq_true rfl) ?_
  intro p e s m below meth c ls C hlk hr hml hl hP hS
  have hl : lv_has ls 3 [(0, .ref (b + 0)), (1, .int a1), (2, .int a2)] := hl
  refine lv_aload_n C.1 C.2.1 d_MO_lease_0 rfl (lv_at hl 0 rfl) ?_
  refine lv_iconst (v := 0) C.1 C.2.1 d_MO_lease_1 (by decide) ?_
  refine xput mw_inj C hP hS o_MO rfl c_MO (k := 0) (x := 0) (by decide) wg_877 rfl rfl rfl rfl d_MO_lease_2 (fun H locs hP hS => ?_)
  refine lv_iload_n C.1 C.2.1 d_MO_lease_5 rfl (lv_at hl 1 rfl) ?_
  refine xcSi (rest := []) C hml hl.1 (k_MO_isController l D cA b (xu st 0 0 0 0) a1) q_MO_isController rfl rfl wg_1223 wg_1224 ⟨Nat.le_of_ble_eq_true rfl, Nat.le_of_ble_eq_true rfl⟩ hP hS rfl (Nat.le_of_ble_eq_true rfl) d_MO_lease_6 rfl (fun H locs hP hS => ?_)
  refine lv_if_eq (tgt := 48) C.1 C.2.1 d_MO_lease_9 (by decide) (fun h1 => ?_) (fun h1 => ?_)
  · refine lv_iconst (v := 0) C.1 C.2.1 d_MO_lease_48 (by decide) ?_
    exact xrz C hlk hr bz_0 hP hS d_MO_lease_49 ⟨by rw [f_MO_lease, if_pos h1], by rw [f_MO_lease, if_pos h1]⟩
  · refine lv_aload_n C.1 C.2.1 d_MO_lease_12 rfl (lv_at hl 0 rfl) ?_
    refine lv_iload_n C.1 C.2.1 d_MO_lease_13 rfl (lv_at hl 2 rfl) ?_
    refine lv_iconst (v := 2) C.1 C.2.1 d_MO_lease_14 (by decide) ?_
    refine xcVi (rest := []) C hml hl.1 (k_MO_isAt l D cA b (xu st 0 0 0 0) a2 2) q_MO_isAt rfl rfl wg_1083 wg_1085 ws_53 ⟨Nat.le_of_ble_eq_true rfl, Nat.le_of_ble_eq_true rfl⟩ hP hS o_MO rfl c_MO rfl (Nat.le_of_ble_eq_true rfl) d_MO_lease_15 rfl (fun H locs hP hS => ?_)
    refine lv_if_eq (tgt := 48) C.1 C.2.1 d_MO_lease_18 (by decide) (fun h2 => ?_) (fun h2 => ?_)
    · refine lv_iconst (v := 0) C.1 C.2.1 d_MO_lease_48 (by decide) ?_
      exact xrz C hlk hr bz_0 hP hS d_MO_lease_49 ⟨by rw [f_MO_lease, if_neg h1, if_pos h2], by rw [f_MO_lease, if_neg h1, if_pos h2]⟩
    · refine lv_aload_n C.1 C.2.1 d_MO_lease_21 rfl (lv_at hl 0 rfl) ?_
      refine xget C hP o_MO rfl c_MO (k := 11) (v := .ref (b + 8)) (by decide) wg_888 rfl d_MO_lease_22 ?_
      refine lv_iload_n C.1 C.2.1 d_MO_lease_25 rfl (lv_at hl 2 rfl) ?_
      refine xzald C hP om_8 rfl (v := (bz (st 8 a2.toNatClampNeg 0))) (vm_isAt h2) (congrArg (fun z => Value.int (bz z)) (xu_a (by decide))) d_MO_lease_26 ?_
      refine lv_if_eq (tgt := 48) C.1 C.2.1 d_MO_lease_27 (by decide) (fun h3 => ?_) (fun h3 => ?_)
      · refine lv_iconst (v := 0) C.1 C.2.1 d_MO_lease_48 (by decide) ?_
        exact xrz C hlk hr bz_0 hP hS d_MO_lease_49 ⟨by rw [f_MO_lease, if_neg h1, if_neg h2, if_pos h3], by rw [f_MO_lease, if_neg h1, if_neg h2, if_pos h3]⟩
      · refine lv_aload_n C.1 C.2.1 d_MO_lease_30 rfl (lv_at hl 0 rfl) ?_
        refine lv_iload_n C.1 C.2.1 d_MO_lease_31 rfl (lv_at hl 2 rfl) ?_
        refine xcVi (rest := []) C hml hl.1 (k_MO_isLeased l D cA b (xu st 0 0 0 0) a2 (vm_isAt h2)) q_MO_isLeased rfl rfl wg_1226 wg_1228 ws_70 ⟨Nat.le_of_ble_eq_true rfl, Nat.le_of_ble_eq_true rfl⟩ hP hS o_MO rfl c_MO rfl (Nat.le_of_ble_eq_true rfl) d_MO_lease_32 rfl (fun H locs hP hS => ?_)
        refine lv_if_eq (tgt := 50) C.1 C.2.1 d_MO_lease_35 (by decide) (fun h4 => ?_) (fun h4 => ?_)
        · refine lv_aload_n C.1 C.2.1 d_MO_lease_50 rfl (lv_at hl 0 rfl) ?_
          refine xget C hP o_MO rfl c_MO (k := 16) (v := .ref (b + 13)) (by decide) wg_893 rfl d_MO_lease_51 ?_
          refine lv_iload_n C.1 C.2.1 d_MO_lease_54 rfl (lv_at hl 2 rfl) ?_
          refine lv_iload_n C.1 C.2.1 d_MO_lease_55 rfl (lv_at hl 1 rfl) ?_
          refine xiast mw_inj C hP hS om_13 rfl (vm_isAt h2) rfl d_MO_lease_56 (fun H locs hP hS => ?_)
          refine lv_aload_n C.1 C.2.1 d_MO_lease_57 rfl (lv_at hl 0 rfl) ?_
          refine xget C hP o_MO rfl c_MO (k := 17) (v := .ref (b + 14)) (by decide) wg_894 rfl d_MO_lease_58 ?_
          refine lv_iload_n C.1 C.2.1 d_MO_lease_61 rfl (lv_at hl 2 rfl) ?_
          refine lv_aload_n C.1 C.2.1 d_MO_lease_62 rfl (lv_at hl 0 rfl) ?_
          refine xget C hP o_MO rfl c_MO (k := 1) (v := .int (st 0 1 0)) (by decide) wg_878 (congrArg Value.int (Eq.trans (xu_a (by decide)) (xu_f (by decide)))) d_MO_lease_63 ?_
          refine xiast mw_inj C hP hS om_14 rfl (vm_isAt h2) rfl d_MO_lease_66 (fun H locs hP hS => ?_)
          refine lv_aload_n C.1 C.2.1 d_MO_lease_67 rfl (lv_at hl 0 rfl) ?_
          refine xcVv (rest := []) C hml hl.1 (k_MO_settle l D cA b (xu (xu (xu st 0 0 0 0) 13 a2.toNatClampNeg 0 a1) 14 a2.toNatClampNeg 0 (st 0 1 0)) (qok_xa (qok_xa (qok_xu hq (by decide)) (by decide)) (by decide)) (cok_of (cok_of (cok_of hc (fun _ => xu_a (by decide))) (fun _ => xu_a (by decide))) (fun _ => xu_a (by decide)))) q_MO_settle rfl rfl wg_1119 wg_1121 ws_56 ⟨Nat.le_of_ble_eq_true rfl, Nat.le_of_ble_eq_true rfl⟩ hP hS o_MO rfl c_MO rfl (Nat.le_of_ble_eq_true rfl) d_MO_lease_68 rfl (fun H locs hP hS => ?_)
          refine lv_iconst (v := 1) C.1 C.2.1 d_MO_lease_71 (by decide) ?_
          exact xrz C hlk hr bz_1 hP hS d_MO_lease_72 ⟨by rw [f_MO_lease, if_neg h1, if_neg h2, if_neg h3, if_pos h4], by rw [f_MO_lease, if_neg h1, if_neg h2, if_neg h3, if_pos h4]⟩
        · refine lv_aload_n C.1 C.2.1 d_MO_lease_38 rfl (lv_at hl 0 rfl) ?_
          refine xget C hP o_MO rfl c_MO (k := 16) (v := .ref (b + 13)) (by decide) wg_893 rfl d_MO_lease_39 ?_
          refine lv_iload_n C.1 C.2.1 d_MO_lease_42 rfl (lv_at hl 2 rfl) ?_
          refine xiald C hP om_13 rfl (v := (st 13 a2.toNatClampNeg 0)) (vm_isAt h2) (congrArg Value.int (xu_a (by decide))) d_MO_lease_43 ?_
          refine lv_iload_n C.1 C.2.1 d_MO_lease_44 rfl (lv_at hl 1 rfl) ?_
          refine lv_icmp_eq (tgt := 50) C.1 C.2.1 d_MO_lease_45 (by decide) (fun h5 => ?_) (fun h5 => ?_)
          · refine lv_aload_n C.1 C.2.1 d_MO_lease_50 rfl (lv_at hl 0 rfl) ?_
            refine xget C hP o_MO rfl c_MO (k := 16) (v := .ref (b + 13)) (by decide) wg_893 rfl d_MO_lease_51 ?_
            refine lv_iload_n C.1 C.2.1 d_MO_lease_54 rfl (lv_at hl 2 rfl) ?_
            refine lv_iload_n C.1 C.2.1 d_MO_lease_55 rfl (lv_at hl 1 rfl) ?_
            refine xiast mw_inj C hP hS om_13 rfl (vm_isAt h2) rfl d_MO_lease_56 (fun H locs hP hS => ?_)
            refine lv_aload_n C.1 C.2.1 d_MO_lease_57 rfl (lv_at hl 0 rfl) ?_
            refine xget C hP o_MO rfl c_MO (k := 17) (v := .ref (b + 14)) (by decide) wg_894 rfl d_MO_lease_58 ?_
            refine lv_iload_n C.1 C.2.1 d_MO_lease_61 rfl (lv_at hl 2 rfl) ?_
            refine lv_aload_n C.1 C.2.1 d_MO_lease_62 rfl (lv_at hl 0 rfl) ?_
            refine xget C hP o_MO rfl c_MO (k := 1) (v := .int (st 0 1 0)) (by decide) wg_878 (congrArg Value.int (Eq.trans (xu_a (by decide)) (xu_f (by decide)))) d_MO_lease_63 ?_
            refine xiast mw_inj C hP hS om_14 rfl (vm_isAt h2) rfl d_MO_lease_66 (fun H locs hP hS => ?_)
            refine lv_aload_n C.1 C.2.1 d_MO_lease_67 rfl (lv_at hl 0 rfl) ?_
            refine xcVv (rest := []) C hml hl.1 (k_MO_settle l D cA b (xu (xu (xu st 0 0 0 0) 13 a2.toNatClampNeg 0 a1) 14 a2.toNatClampNeg 0 (st 0 1 0)) (qok_xa (qok_xa (qok_xu hq (by decide)) (by decide)) (by decide)) (cok_of (cok_of (cok_of hc (fun _ => xu_a (by decide))) (fun _ => xu_a (by decide))) (fun _ => xu_a (by decide)))) q_MO_settle rfl rfl wg_1119 wg_1121 ws_56 ⟨Nat.le_of_ble_eq_true rfl, Nat.le_of_ble_eq_true rfl⟩ hP hS o_MO rfl c_MO rfl (Nat.le_of_ble_eq_true rfl) d_MO_lease_68 rfl (fun H locs hP hS => ?_)
            refine lv_iconst (v := 1) C.1 C.2.1 d_MO_lease_71 (by decide) ?_
            exact xrz C hlk hr bz_1 hP hS d_MO_lease_72 ⟨by rw [f_MO_lease, if_neg h1, if_neg h2, if_neg h3, if_neg h4, if_pos h5], by rw [f_MO_lease, if_neg h1, if_neg h2, if_neg h3, if_neg h4, if_pos h5]⟩
          · refine lv_iconst (v := 0) C.1 C.2.1 d_MO_lease_48 (by decide) ?_
            exact xrz C hlk hr bz_0 hP hS d_MO_lease_49 ⟨by rw [f_MO_lease, if_neg h1, if_neg h2, if_neg h3, if_neg h4, if_neg h5], by rw [f_MO_lease, if_neg h1, if_neg h2, if_neg h3, if_neg h4, if_neg h5]⟩
