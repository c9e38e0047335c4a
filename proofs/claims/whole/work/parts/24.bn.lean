def f_BN_isOpen (st : XS) (a1 : Int32) : Int32 :=
  if (f_BN_isDevice a1) = 0 then 0
  else if (st 8 2 a1.toNatClampNeg) = 1 then 1
  else 0
set_option maxRecDepth 100000 in
set_option maxHeartbeats 4000000 in
theorem z_BN_isOpen {st : XS} {a1 : Int32} : bz (f_BN_isOpen st a1) = (f_BN_isOpen st a1) := by
  unfold f_BN_isOpen
  repeat' split
  all_goals first | with_reducible exact bz_0 | with_reducible exact bz_1 | with_reducible exact bz_bz _ | with_reducible exact z_BN_isDevice
set_option maxRecDepth 100000 in
set_option maxHeartbeats 4000000 in
theorem k_BN_isOpen (l : Launch) (D : va_G) (cA : Nat → ClassId) (b : Nat) (st : XS) (a1 : Int32) : xMi cw D cA b l y_BN_isOpen (Cond.code y_BN_isOpen b_BN_isOpen 2 (some .boolean)) { frames := 1, cells := 0, slots := 0, locals := 20 } st [.ref (b + 0), .int a1] (f_BN_isOpen st a1) st := by
  refine xMi_of rfl (by decide) (Nat.le_of_ble_eq_true rfl) ?_
  intro p e s m below meth c ls C hlk hr hml hl hP hS
  have hl : lv_has ls 2 [(0, .ref (b + 0)), (1, .int a1)] := hl
  refine lv_iload_n C.1 C.2.1 d_BN_isOpen_0 rfl (lv_at hl 1 rfl) ?_
  refine xcSi (rest := []) C hml hl.1 (k_BN_isDevice l D cA b st a1) q_BN_isDevice rfl rfl wg_410 wg_411 ⟨Nat.le_of_ble_eq_true rfl, Nat.le_of_ble_eq_true rfl⟩ hP hS rfl (Nat.le_of_ble_eq_true rfl) d_BN_isOpen_1 rfl (fun H locs hP hS => ?_)
  refine lv_if_eq (tgt := 24) C.1 C.2.1 d_BN_isOpen_4 (by decide) (fun h1 => ?_) (fun h1 => ?_)
  · refine lv_iconst (v := 0) C.1 C.2.1 d_BN_isOpen_24 (by decide) ?_
    exact xrz C hlk hr bz_0 hP hS d_BN_isOpen_25 ⟨by rw [f_BN_isOpen, if_pos h1], rfl⟩
  · refine lv_aload_n C.1 C.2.1 d_BN_isOpen_7 rfl (lv_at hl 0 rfl) ?_
    refine xget C hP o_BN rfl c_BN (k := 0) (v := .ref (b + 1)) (by decide) wg_378 rfl d_BN_isOpen_8 ?_
    refine lv_iload_n C.1 C.2.1 d_BN_isOpen_11 rfl (lv_at hl 1 rfl) ?_
    refine xaald C hP o_da rfl (E := R_DE) rfl (v := b + (73 + 20 * a1.toNatClampNeg)) (vd_isDevice h1) rfl d_BN_isOpen_12 ?_
    refine xgetN C hP (o_DE (xin_lt (vd_isDevice h1))) rfl c_DE (k := 2) (v := .int (st 8 2 a1.toNatClampNeg)) (by decide) wn_285 rfl d_BN_isOpen_13 ?_
    refine lv_iconst (v := 1) C.1 C.2.1 d_BN_isOpen_16 (by decide) ?_
    refine lv_icmp_ne (tgt := 24) C.1 C.2.1 d_BN_isOpen_17 (by decide) (fun h2 => ?_) (fun h2 => ?_)
    · refine lv_iconst (v := 0) C.1 C.2.1 d_BN_isOpen_24 (by decide) ?_
      exact xrz C hlk hr bz_0 hP hS d_BN_isOpen_25 ⟨by rw [f_BN_isOpen, if_neg h1, if_neg h2], rfl⟩
    · refine lv_iconst (v := 1) C.1 C.2.1 d_BN_isOpen_20 (by decide) ?_
      refine lv_goto (tgt := 25) C.1 C.2.1 d_BN_isOpen_21 (by decide) ?_
      exact xrz C hlk hr bz_1 hP hS d_BN_isOpen_25 ⟨by rw [f_BN_isOpen, if_neg h1, if_pos h2], rfl⟩

def f_BN_isSealed (st : XS) (a1 : Int32) : Int32 :=
  if (f_BN_isDevice a1) = 0 then 0
  else if (st 8 2 a1.toNatClampNeg) = 2 then 1
  else 0
set_option maxRecDepth 100000 in
set_option maxHeartbeats 4000000 in
theorem z_BN_isSealed {st : XS} {a1 : Int32} : bz (f_BN_isSealed st a1) = (f_BN_isSealed st a1) := by
  unfold f_BN_isSealed
  repeat' split
  all_goals first | with_reducible exact bz_0 | with_reducible exact bz_1 | with_reducible exact bz_bz _ | with_reducible exact z_BN_isDevice
set_option maxRecDepth 100000 in
set_option maxHeartbeats 4000000 in
theorem k_BN_isSealed (l : Launch) (D : va_G) (cA : Nat → ClassId) (b : Nat) (st : XS) (a1 : Int32) : xMi cw D cA b l y_BN_isSealed (Cond.code y_BN_isSealed b_BN_isSealed 2 (some .boolean)) { frames := 1, cells := 0, slots := 0, locals := 20 } st [.ref (b + 0), .int a1] (f_BN_isSealed st a1) st := by
  refine xMi_of rfl (by decide) (Nat.le_of_ble_eq_true rfl) ?_
  intro p e s m below meth c ls C hlk hr hml hl hP hS
  have hl : lv_has ls 2 [(0, .ref (b + 0)), (1, .int a1)] := hl
  refine lv_iload_n C.1 C.2.1 d_BN_isSealed_0 rfl (lv_at hl 1 rfl) ?_
  refine xcSi (rest := []) C hml hl.1 (k_BN_isDevice l D cA b st a1) q_BN_isDevice rfl rfl wg_410 wg_411 ⟨Nat.le_of_ble_eq_true rfl, Nat.le_of_ble_eq_true rfl⟩ hP hS rfl (Nat.le_of_ble_eq_true rfl) d_BN_isSealed_1 rfl (fun H locs hP hS => ?_)
  refine lv_if_eq (tgt := 24) C.1 C.2.1 d_BN_isSealed_4 (by decide) (fun h1 => ?_) (fun h1 => ?_)
  · refine lv_iconst (v := 0) C.1 C.2.1 d_BN_isSealed_24 (by decide) ?_
    exact xrz C hlk hr bz_0 hP hS d_BN_isSealed_25 ⟨by rw [f_BN_isSealed, if_pos h1], rfl⟩
  · refine lv_aload_n C.1 C.2.1 d_BN_isSealed_7 rfl (lv_at hl 0 rfl) ?_
    refine xget C hP o_BN rfl c_BN (k := 0) (v := .ref (b + 1)) (by decide) wg_378 rfl d_BN_isSealed_8 ?_
    refine lv_iload_n C.1 C.2.1 d_BN_isSealed_11 rfl (lv_at hl 1 rfl) ?_
    refine xaald C hP o_da rfl (E := R_DE) rfl (v := b + (73 + 20 * a1.toNatClampNeg)) (vd_isDevice h1) rfl d_BN_isSealed_12 ?_
    refine xgetN C hP (o_DE (xin_lt (vd_isDevice h1))) rfl c_DE (k := 2) (v := .int (st 8 2 a1.toNatClampNeg)) (by decide) wn_285 rfl d_BN_isSealed_13 ?_
    refine lv_iconst (v := 2) C.1 C.2.1 d_BN_isSealed_16 (by decide) ?_
    refine lv_icmp_ne (tgt := 24) C.1 C.2.1 d_BN_isSealed_17 (by decide) (fun h2 => ?_) (fun h2 => ?_)
    · refine lv_iconst (v := 0) C.1 C.2.1 d_BN_isSealed_24 (by decide) ?_
      exact xrz C hlk hr bz_0 hP hS d_BN_isSealed_25 ⟨by rw [f_BN_isSealed, if_neg h1, if_neg h2], rfl⟩
    · refine lv_iconst (v := 1) C.1 C.2.1 d_BN_isSealed_20 (by decide) ?_
      refine lv_goto (tgt := 25) C.1 C.2.1 d_BN_isSealed_21 (by decide) ?_
      exact xrz C hlk hr bz_1 hP hS d_BN_isSealed_25 ⟨by rw [f_BN_isSealed, if_neg h1, if_pos h2], rfl⟩

theorem vd_isOpen {st : XS} {x : Int32} (h : ¬ f_BN_isOpen st x = 0) : vp_in x 8 := by
  unfold f_BN_isOpen at h
  split at h
  · exact absurd rfl h
  · rename_i h1; exact vd_isDevice h1
theorem vd_isSealed {st : XS} {x : Int32} (h : ¬ f_BN_isSealed st x = 0) : vp_in x 8 := by
  unfold f_BN_isSealed at h
  split at h
  · exact absurd rfl h
  · rename_i h1; exact vd_isDevice h1
