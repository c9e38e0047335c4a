def f_MO_isAt (st : XS) (a1 : Int32) (a2 : Int32) : Int32 :=
  if (f_MO_isDevice a1) = 0 then 0
  else if (st 2 a1.toNatClampNeg 0) = a2 then 1
  else 0
set_option maxRecDepth 100000 in
set_option maxHeartbeats 4000000 in
theorem z_MO_isAt {st : XS} {a1 : Int32} {a2 : Int32} : bz (f_MO_isAt st a1 a2) = (f_MO_isAt st a1 a2) := by
  unfold f_MO_isAt
  repeat' split
  all_goals first | with_reducible exact bz_0 | with_reducible exact bz_1 | with_reducible exact bz_bz _ | with_reducible exact z_MO_isDevice
set_option maxRecDepth 100000 in
set_option maxHeartbeats 4000000 in
theorem k_MO_isAt (l : Launch) (D : va_G) (cA : Nat → ClassId) (b : Nat) (st : XS) (a1 : Int32) (a2 : Int32) : xMi mw D cA b l y_MO_isAt (Cond.code y_MO_isAt b_MO_isAt 3 (some .boolean)) { frames := 1, cells := 0, slots := 0, locals := 20 } st [.ref (b + 0), .int a1, .int a2] (f_MO_isAt st a1 a2) st := by
  refine xMi_of rfl (by decide) (Nat.le_of_ble_eq_true rfl) ?_
  intro p e s m below meth c ls C hlk hr hml hl hP hS
  have hl : lv_has ls 3 [(0, .ref (b + 0)), (1, .int a1), (2, .int a2)] := hl
  refine lv_iload_n C.1 C.2.1 d_MO_isAt_0 rfl (lv_at hl 1 rfl) ?_
  refine xcSi (rest := []) C hml hl.1 (k_MO_isDevice l D cA b st a1) q_MO_isDevice rfl rfl wg_1073 wg_1074 ⟨Nat.le_of_ble_eq_true rfl, Nat.le_of_ble_eq_true rfl⟩ hP hS rfl (Nat.le_of_ble_eq_true rfl) d_MO_isAt_1 rfl (fun H locs hP hS => ?_)
  refine lv_if_eq (tgt := 32) C.1 C.2.1 d_MO_isAt_4 (by decide) (fun h1 => ?_) (fun h1 => ?_)
  · refine lv_iconst (v := 0) C.1 C.2.1 d_MO_isAt_32 (by decide) ?_
    exact xrz C hlk hr bz_0 hP hS d_MO_isAt_33 ⟨by rw [f_MO_isAt, if_pos h1], rfl⟩
  · refine lv_aload_n C.1 C.2.1 d_MO_isAt_7 rfl (lv_at hl 0 rfl) ?_
    refine xget C hP o_MO rfl c_MO (k := 5) (v := .ref (b + 2)) (by decide) wg_882 rfl d_MO_isAt_8 ?_
    refine lv_iload_n C.1 C.2.1 d_MO_isAt_11 rfl (lv_at hl 1 rfl) ?_
    refine xcSi (rest := [.ref (b + 2)]) C hml hl.1 (k_MO_isDevice l D cA b st a1) q_MO_isDevice rfl rfl wg_1073 wg_1074 ⟨Nat.le_of_ble_eq_true rfl, Nat.le_of_ble_eq_true rfl⟩ hP hS rfl (Nat.le_of_ble_eq_true rfl) d_MO_isAt_12 rfl (fun H locs hP hS => ?_)
    refine lv_if_eq (tgt := 22) C.1 C.2.1 d_MO_isAt_15 (by decide) (fun h => absurd h h1) (fun _ => ?_)
    refine lv_iload_n C.1 C.2.1 d_MO_isAt_18 rfl (lv_at hl 1 rfl) ?_
    refine lv_goto (tgt := 23) C.1 C.2.1 d_MO_isAt_19 (by decide) ?_
    refine xiald C hP om_2 rfl (v := (st 2 a1.toNatClampNeg 0)) (vm_isDevice h1) rfl d_MO_isAt_23 ?_
    refine lv_iload_n C.1 C.2.1 d_MO_isAt_24 rfl (lv_at hl 2 rfl) ?_
    refine lv_icmp_ne (tgt := 32) C.1 C.2.1 d_MO_isAt_25 (by decide) (fun h2 => ?_) (fun h2 => ?_)
    · refine lv_iconst (v := 0) C.1 C.2.1 d_MO_isAt_32 (by decide) ?_
      exact xrz C hlk hr bz_0 hP hS d_MO_isAt_33 ⟨by rw [f_MO_isAt, if_neg h1, if_neg h2], rfl⟩
    · refine lv_iconst (v := 1) C.1 C.2.1 d_MO_isAt_28 (by decide) ?_
      refine lv_goto (tgt := 33) C.1 C.2.1 d_MO_isAt_29 (by decide) ?_
      exact xrz C hlk hr bz_1 hP hS d_MO_isAt_33 ⟨by rw [f_MO_isAt, if_neg h1, if_pos h2], rfl⟩

def f_MO_isChannel (st : XS) (a1 : Int32) (a2 : Int32) : Int32 :=
  if (f_MO_isDevice a1) = 0 then 0
  else if a2 < 0 then 0
  else if (st 5 a1.toNatClampNeg 0) ≤ a2 then 0
  else 1
set_option maxRecDepth 100000 in
set_option maxHeartbeats 4000000 in
theorem z_MO_isChannel {st : XS} {a1 : Int32} {a2 : Int32} : bz (f_MO_isChannel st a1 a2) = (f_MO_isChannel st a1 a2) := by
  unfold f_MO_isChannel
  repeat' split
  all_goals first | with_reducible exact bz_0 | with_reducible exact bz_1 | with_reducible exact bz_bz _ | with_reducible exact z_MO_isDevice
set_option maxRecDepth 100000 in
set_option maxHeartbeats 4000000 in
theorem k_MO_isChannel (l : Launch) (D : va_G) (cA : Nat → ClassId) (b : Nat) (st : XS) (a1 : Int32) (a2 : Int32) : xMi mw D cA b l y_MO_isChannel (Cond.code y_MO_isChannel b_MO_isChannel 3 (some .boolean)) { frames := 1, cells := 0, slots := 0, locals := 20 } st [.ref (b + 0), .int a1, .int a2] (f_MO_isChannel st a1 a2) st := by
  refine xMi_of rfl (by decide) (Nat.le_of_ble_eq_true rfl) ?_
  intro p e s m below meth c ls C hlk hr hml hl hP hS
  have hl : lv_has ls 3 [(0, .ref (b + 0)), (1, .int a1), (2, .int a2)] := hl
  refine lv_iload_n C.1 C.2.1 d_MO_isChannel_0 rfl (lv_at hl 1 rfl) ?_
  refine xcSi (rest := []) C hml hl.1 (k_MO_isDevice l D cA b st a1) q_MO_isDevice rfl rfl wg_1073 wg_1074 ⟨Nat.le_of_ble_eq_true rfl, Nat.le_of_ble_eq_true rfl⟩ hP hS rfl (Nat.le_of_ble_eq_true rfl) d_MO_isChannel_1 rfl (fun H locs hP hS => ?_)
  refine lv_if_eq (tgt := 36) C.1 C.2.1 d_MO_isChannel_4 (by decide) (fun h1 => ?_) (fun h1 => ?_)
  · refine lv_iconst (v := 0) C.1 C.2.1 d_MO_isChannel_36 (by decide) ?_
    exact xrz C hlk hr bz_0 hP hS d_MO_isChannel_37 ⟨by rw [f_MO_isChannel, if_pos h1], rfl⟩
  · refine lv_iload_n C.1 C.2.1 d_MO_isChannel_7 rfl (lv_at hl 2 rfl) ?_
    refine lv_if_lt (tgt := 36) C.1 C.2.1 d_MO_isChannel_8 (by decide) (fun h2 => ?_) (fun h2 => ?_)
    · refine lv_iconst (v := 0) C.1 C.2.1 d_MO_isChannel_36 (by decide) ?_
      exact xrz C hlk hr bz_0 hP hS d_MO_isChannel_37 ⟨by rw [f_MO_isChannel, if_neg h1, if_pos h2], rfl⟩
    · refine lv_iload_n C.1 C.2.1 d_MO_isChannel_11 rfl (lv_at hl 2 rfl) ?_
      refine lv_aload_n C.1 C.2.1 d_MO_isChannel_12 rfl (lv_at hl 0 rfl) ?_
      refine xget C hP o_MO rfl c_MO (k := 8) (v := .ref (b + 5)) (by decide) wg_885 rfl d_MO_isChannel_13 ?_
      refine lv_iload_n C.1 C.2.1 d_MO_isChannel_16 rfl (lv_at hl 1 rfl) ?_
      refine xcSi (rest := [.ref (b + 5), .int a2]) C hml hl.1 (k_MO_isDevice l D cA b st a1) q_MO_isDevice rfl rfl wg_1073 wg_1074 ⟨Nat.le_of_ble_eq_true rfl, Nat.le_of_ble_eq_true rfl⟩ hP hS rfl (Nat.le_of_ble_eq_true rfl) d_MO_isChannel_17 rfl (fun H locs hP hS => ?_)
      refine lv_if_eq (tgt := 27) C.1 C.2.1 d_MO_isChannel_20 (by decide) (fun h => absurd h h1) (fun _ => ?_)
      refine lv_iload_n C.1 C.2.1 d_MO_isChannel_23 rfl (lv_at hl 1 rfl) ?_
      refine lv_goto (tgt := 28) C.1 C.2.1 d_MO_isChannel_24 (by decide) ?_
      refine xiald C hP om_5 rfl (v := (st 5 a1.toNatClampNeg 0)) (vm_isDevice h1) rfl d_MO_isChannel_28 ?_
      refine lv_icmp_ge (tgt := 36) C.1 C.2.1 d_MO_isChannel_29 (by decide) (fun h3 => ?_) (fun h3 => ?_)
      · refine lv_iconst (v := 0) C.1 C.2.1 d_MO_isChannel_36 (by decide) ?_
        exact xrz C hlk hr bz_0 hP hS d_MO_isChannel_37 ⟨by rw [f_MO_isChannel, if_neg h1, if_neg h2, if_pos h3], rfl⟩
      · refine lv_iconst (v := 1) C.1 C.2.1 d_MO_isChannel_32 (by decide) ?_
        refine lv_goto (tgt := 37) C.1 C.2.1 d_MO_isChannel_33 (by decide) ?_
        exact xrz C hlk hr bz_1 hP hS d_MO_isChannel_37 ⟨by rw [f_MO_isChannel, if_neg h1, if_neg h2, if_neg h3], rfl⟩

theorem vm_isAt {st : XS} {x y : Int32} (h : ¬ f_MO_isAt st x y = 0) : vp_in x 8 := by
  unfold f_MO_isAt at h
  split at h
  · exact absurd rfl h
  · rename_i h1; exact vm_isDevice h1
theorem vm_isChannel {st : XS} {d x : Int32} (h : ¬ f_MO_isChannel st d x = 0) (hb : (st 5 d.toNatClampNeg 0).toInt ≤ (4 : Nat)) : vp_in x 4 := by
  unfold f_MO_isChannel at h
  split at h
  · exact absurd rfl h
  · split at h
    · exact absurd rfl h
    · rename_i h1
      split at h
      · exact absurd rfl h
      · rename_i h2
        have a1 := i32_nle h2
        exact vp_in_iff.mpr ⟨i32_nlt h1, by omega⟩
