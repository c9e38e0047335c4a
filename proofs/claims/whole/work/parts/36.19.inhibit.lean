def f_MO_inhibit (st : XS) (a1 : Int32) (a2 : Int32) (a3 : Int32) : XS × Int32 :=
  if (f_MO_isAt (xu st 0 0 0 0) a1 2) = 0 then ((xu st 0 0 0 0), 0)
  else if (f_MO_isChannel (xu st 0 0 0 0) a1 a2) = 0 then ((xu st 0 0 0 0), 0)
  else if (st 20 (((4 * a1) + a2)).toNatClampNeg 0) = 0 then ((xu st 0 0 0 0), 0)
  else if a3 < 0 then ((xu st 0 0 0 0), 0)
  else if a3 ≤ 100000 then ((f_MO_settle (xu (xu st 0 0 0 0) 29 (((4 * a1) + a2)).toNatClampNeg 0 ((st 0 1 0) + a3))), 1)
  else ((xu st 0 0 0 0), 0)
set_option maxRecDepth 100000 in
set_option maxHeartbeats 4000000 in
theorem z_MO_inhibit {st : XS} {a1 : Int32} {a2 : Int32} {a3 : Int32} : bz (f_MO_inhibit st a1 a2 a3).2 = (f_MO_inhibit st a1 a2 a3).2 := by
  unfold f_MO_inhibit
  repeat' split
  all_goals first | with_reducible exact bz_0 | with_reducible exact bz_1 | with_reducible exact bz_bz _ | with_reducible exact z_MO_isAt | with_reducible exact z_MO_isChannel
set_option maxRecDepth 100000 in
set_option maxHeartbeats 4000000 in
theorem fr_MO_inhibit {st : XS} {a1 : Int32} {a2 : Int32} {a3 : Int32} {a' k' i' : Nat} (h : (a', k') ∉ ([(0, 0), (0, 2), (0, 3), (0, 39)] : List (Nat × Nat))) (h2 : a' ∉ ([29, 30, 31, 32, 36, 37, 38, 39, 40, 41, 42, 43] : List Nat)) : (f_MO_inhibit st a1 a2 a3).1 a' k' i' = st a' k' i' := by
  unfold f_MO_inhibit
  repeat' split
  all_goals (try dsimp only)
  all_goals (repeat (first | with_reducible rfl | rw [xu_f (fun e => h (by rw [e]; decide))] | rw [xu_a (fun e => h2 (by rw [e]; decide))] | rw [fr_MO_settle (fun q => h ((by decide : ∀ z ∈ ([(0, 2), (0, 3), (0, 39)] : List (Nat × Nat)), z ∈ ([(0, 0), (0, 2), (0, 3), (0, 39)] : List (Nat × Nat))) _ q)) (fun q => h2 ((by decide : ∀ z ∈ ([30, 31, 32, 36, 37, 38, 39, 40, 41, 42, 43] : List Nat), z ∈ ([29, 30, 31, 32, 36, 37, 38, 39, 40, 41, 42, 43] : List Nat)) _ q))]))
theorem p_MO_inhibit {st : XS} {a1 : Int32} {a2 : Int32} {a3 : Int32} (h : qok st) : qok (f_MO_inhibit st a1 a2 a3).1 := by
  unfold f_MO_inhibit
  repeat' split
  all_goals (try dsimp only)
  all_goals (repeat (first | with_reducible assumption | with_reducible refine p_MO_settle ?_ | with_reducible refine qok_xa ?_ (by decide) | with_reducible refine qok_xu ?_ ?_ | decide))
set_option maxRecDepth 100000 in
set_option maxHeartbeats 4000000 in
theorem k_MO_inhibit (l : Launch) (D : va_G) (cA : Nat → ClassId) (b : Nat) (st : XS) (a1 : Int32) (a2 : Int32) (a3 : Int32) (hq : qok st) (hc : cok st) : xMi mw D cA b l y_MO_inhibit (Cond.code y_MO_inhibit b_MO_inhibit 4 (some .boolean)) { frames := 3, cells := 0, slots := 0, locals := 65 } st [.ref (b + 0), .int a1, .int a2, .int a3] (f_MO_inhibit st a1 a2 a3).2 (f_MO_inhibit st a1 a2 a3).1 := by
  refine xMi_of rfl (by decide) (Nat.le_of_ble_eq_true rfl) ?_
  intro p e s m below meth c ls C hlk hr hml hl hP hS
  have hl : lv_has ls 4 [(0, .ref (b + 0)), (1, .int a1), (2, .int a2), (3, .int a3)] := hl
  refine lv_aload_n C.1 C.2.1 d_MO_inhibit_0 rfl (lv_at hl 0 rfl) ?_
  refine lv_iconst (v := 0) C.1 C.2.1 d_MO_inhibit_1 (by decide) ?_
  refine xput mw_inj C hP hS o_MO rfl c_MO (k := 0) (x := 0) (by decide) wg_877 rfl rfl rfl rfl d_MO_inhibit_2 (fun H locs hP hS => ?_)
  refine lv_aload_n C.1 C.2.1 d_MO_inhibit_5 rfl (lv_at hl 0 rfl) ?_
  refine lv_iload_n C.1 C.2.1 d_MO_inhibit_6 rfl (lv_at hl 1 rfl) ?_
  refine lv_iconst (v := 2) C.1 C.2.1 d_MO_inhibit_7 (by decide) ?_
  refine xcVi (rest := []) C hml hl.1 (k_MO_isAt l D cA b (xu st 0 0 0 0) a1 2) q_MO_isAt rfl rfl wg_1083 wg_1085 ws_53 ⟨Nat.le_of_ble_eq_true rfl, Nat.le_of_ble_eq_true rfl⟩ hP hS o_MO rfl c_MO rfl (Nat.le_of_ble_eq_true rfl) d_MO_inhibit_8 rfl (fun H locs hP hS => ?_)
  refine lv_if_eq (tgt := 46) C.1 C.2.1 d_MO_inhibit_11 (by decide) (fun h1 => ?_) (fun h1 => ?_)
  · refine lv_iconst (v := 0) C.1 C.2.1 d_MO_inhibit_46 (by decide) ?_
    exact xrz C hlk hr bz_0 hP hS d_MO_inhibit_47 ⟨by rw [f_MO_inhibit, if_pos h1], by rw [f_MO_inhibit, if_pos h1]⟩
  · refine lv_aload_n C.1 C.2.1 d_MO_inhibit_14 rfl (lv_at hl 0 rfl) ?_
    refine lv_iload_n C.1 C.2.1 d_MO_inhibit_15 rfl (lv_at hl 1 rfl) ?_
    refine lv_iload_n C.1 C.2.1 d_MO_inhibit_16 rfl (lv_at hl 2 rfl) ?_
    refine xcVi (rest := []) C hml hl.1 (k_MO_isChannel l D cA b (xu st 0 0 0 0) a1 a2) q_MO_isChannel rfl rfl wg_1099 wg_1101 ws_54 ⟨Nat.le_of_ble_eq_true rfl, Nat.le_of_ble_eq_true rfl⟩ hP hS o_MO rfl c_MO rfl (Nat.le_of_ble_eq_true rfl) d_MO_inhibit_17 rfl (fun H locs hP hS => ?_)
    refine lv_if_eq (tgt := 46) C.1 C.2.1 d_MO_inhibit_20 (by decide) (fun h2 => ?_) (fun h2 => ?_)
    · refine lv_iconst (v := 0) C.1 C.2.1 d_MO_inhibit_46 (by decide) ?_
      exact xrz C hlk hr bz_0 hP hS d_MO_inhibit_47 ⟨by rw [f_MO_inhibit, if_neg h1, if_pos h2], by rw [f_MO_inhibit, if_neg h1, if_pos h2]⟩
    · refine lv_aload_n C.1 C.2.1 d_MO_inhibit_23 rfl (lv_at hl 0 rfl) ?_
      refine xget C hP o_MO rfl c_MO (k := 23) (v := .ref (b + 20)) (by decide) wg_900 rfl d_MO_inhibit_24 ?_
      refine lv_iconst (v := 4) C.1 C.2.1 d_MO_inhibit_27 (by decide) ?_
      refine lv_iload_n C.1 C.2.1 d_MO_inhibit_28 rfl (lv_at hl 1 rfl) ?_
      refine lv_imul C.1 C.2.1 d_MO_inhibit_29 ?_
      refine lv_iload_n C.1 C.2.1 d_MO_inhibit_30 rfl (lv_at hl 2 rfl) ?_
      refine lv_iadd C.1 C.2.1 d_MO_inhibit_31 ?_
      refine xiald C hP om_20 rfl (v := (st 20 (((4 * a1) + a2)).toNatClampNeg 0)) (ix4 (vm_isAt h1) (vm_isChannel h2 (by rw [xu_a (by decide)]; exact (hc _ (xin_lt (vm_isAt h1))).2))) (congrArg Value.int (xu_a (by decide))) d_MO_inhibit_32 ?_
      refine lv_if_eq (tgt := 46) C.1 C.2.1 d_MO_inhibit_33 (by decide) (fun h3 => ?_) (fun h3 => ?_)
      · refine lv_iconst (v := 0) C.1 C.2.1 d_MO_inhibit_46 (by decide) ?_
        exact xrz C hlk hr bz_0 hP hS d_MO_inhibit_47 ⟨by rw [f_MO_inhibit, if_neg h1, if_neg h2, if_pos h3], by rw [f_MO_inhibit, if_neg h1, if_neg h2, if_pos h3]⟩
      · refine lv_iload_n C.1 C.2.1 d_MO_inhibit_36 rfl (lv_at hl 3 rfl) ?_
        refine lv_if_lt (tgt := 46) C.1 C.2.1 d_MO_inhibit_37 (by decide) (fun h4 => ?_) (fun h4 => ?_)
        · refine lv_iconst (v := 0) C.1 C.2.1 d_MO_inhibit_46 (by decide) ?_
          exact xrz C hlk hr bz_0 hP hS d_MO_inhibit_47 ⟨by rw [f_MO_inhibit, if_neg h1, if_neg h2, if_neg h3, if_pos h4], by rw [f_MO_inhibit, if_neg h1, if_neg h2, if_neg h3, if_pos h4]⟩
        · refine lv_iload_n C.1 C.2.1 d_MO_inhibit_40 rfl (lv_at hl 3 rfl) ?_
          refine lv_ldc (v := 100000) C.1 C.2.1 C.2.2.1 (C.2.2.2.1 _ wg_1094) d_MO_inhibit_41 ?_
          refine lv_icmp_le (tgt := 48) C.1 C.2.1 d_MO_inhibit_43 (by decide) (fun h5 => ?_) (fun h5 => ?_)
          · refine lv_aload_n C.1 C.2.1 d_MO_inhibit_48 rfl (lv_at hl 0 rfl) ?_
            refine xget C hP o_MO rfl c_MO (k := 32) (v := .ref (b + 29)) (by decide) wg_909 rfl d_MO_inhibit_49 ?_
            refine lv_iconst (v := 4) C.1 C.2.1 d_MO_inhibit_52 (by decide) ?_
            refine lv_iload_n C.1 C.2.1 d_MO_inhibit_53 rfl (lv_at hl 1 rfl) ?_
            refine lv_imul C.1 C.2.1 d_MO_inhibit_54 ?_
            refine lv_iload_n C.1 C.2.1 d_MO_inhibit_55 rfl (lv_at hl 2 rfl) ?_
            refine lv_iadd C.1 C.2.1 d_MO_inhibit_56 ?_
            refine lv_aload_n C.1 C.2.1 d_MO_inhibit_57 rfl (lv_at hl 0 rfl) ?_
            refine xget C hP o_MO rfl c_MO (k := 1) (v := .int (st 0 1 0)) (by decide) wg_878 (congrArg Value.int (xu_f (by decide))) d_MO_inhibit_58 ?_
            refine lv_iload_n C.1 C.2.1 d_MO_inhibit_61 rfl (lv_at hl 3 rfl) ?_
            refine lv_iadd C.1 C.2.1 d_MO_inhibit_62 ?_
            refine xiast mw_inj C hP hS om_29 rfl (ix4 (vm_isAt h1) (vm_isChannel h2 (by rw [xu_a (by decide)]; exact (hc _ (xin_lt (vm_isAt h1))).2))) rfl d_MO_inhibit_63 (fun H locs hP hS => ?_)
            refine lv_aload_n C.1 C.2.1 d_MO_inhibit_64 rfl (lv_at hl 0 rfl) ?_
            refine xcVv (rest := []) C hml hl.1 (k_MO_settle l D cA b (xu (xu st 0 0 0 0) 29 (((4 * a1) + a2)).toNatClampNeg 0 ((st 0 1 0) + a3)) (qok_xa (qok_xu hq (by decide)) (by decide)) (cok_of (cok_of hc (fun _ => xu_a (by decide))) (fun _ => xu_a (by decide)))) q_MO_settle rfl rfl wg_1119 wg_1121 ws_56 ⟨Nat.le_of_ble_eq_true rfl, Nat.le_of_ble_eq_true rfl⟩ hP hS o_MO rfl c_MO rfl (Nat.le_of_ble_eq_true rfl) d_MO_inhibit_65 rfl (fun H locs hP hS => ?_)
            refine lv_iconst (v := 1) C.1 C.2.1 d_MO_inhibit_68 (by decide) ?_
            exact xrz C hlk hr bz_1 hP hS d_MO_inhibit_69 ⟨by rw [f_MO_inhibit, if_neg h1, if_neg h2, if_neg h3, if_neg h4, if_pos h5], by rw [f_MO_inhibit, if_neg h1, if_neg h2, if_neg h3, if_neg h4, if_pos h5]⟩
          · refine lv_iconst (v := 0) C.1 C.2.1 d_MO_inhibit_46 (by decide) ?_
            exact xrz C hlk hr bz_0 hP hS d_MO_inhibit_47 ⟨by rw [f_MO_inhibit, if_neg h1, if_neg h2, if_neg h3, if_neg h4, if_neg h5], by rw [f_MO_inhibit, if_neg h1, if_neg h2, if_neg h3, if_neg h4, if_neg h5]⟩
