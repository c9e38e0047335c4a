def f_MO_thrown (st : XS) : Int32 :=
  (st 0 0 0)
set_option maxRecDepth 100000 in
set_option maxHeartbeats 4000000 in
theorem k_MO_thrown (l : Launch) (D : va_G) (cA : Nat → ClassId) (b : Nat) (st : XS) : xMi mw D cA b l y_MO_thrown (Cond.code y_MO_thrown b_MO_thrown 1 (some .int)) { frames := 0, cells := 0, slots := 0, locals := 0 } st [.ref (b + 0)] (f_MO_thrown st) st := by
  refine xMi_of rfl (by decide) (Nat.le_of_ble_eq_true rfl) ?_
  intro p e s m below meth c ls C hlk hr hml hl hP hS
  have hl : lv_has ls 1 [(0, .ref (b + 0))] := hl
  refine lv_aload_n C.1 C.2.1 d_MO_thrown_0 rfl (lv_at hl 0 rfl) ?_
  refine xget C hP o_MO rfl c_MO (k := 0) (v := .int (st 0 0 0)) (by decide) wg_877 rfl d_MO_thrown_1 ?_
  exact xri C hlk hr hP hS d_MO_thrown_4 ⟨by rw [f_MO_thrown], rfl⟩

def f_MO_isDevice (a0 : Int32) : Int32 :=
  if a0 < 0 then 0
  else if 8 ≤ a0 then 0
  else 1
set_option maxRecDepth 100000 in
set_option maxHeartbeats 4000000 in
theorem z_MO_isDevice {a0 : Int32} : bz (f_MO_isDevice a0) = (f_MO_isDevice a0) := by
  unfold f_MO_isDevice
  repeat' split
  all_goals first | with_reducible exact bz_0 | with_reducible exact bz_1 | with_reducible exact bz_bz _
set_option maxRecDepth 100000 in
set_option maxHeartbeats 4000000 in
theorem k_MO_isDevice (l : Launch) (D : va_G) (cA : Nat → ClassId) (b : Nat) (st : XS) (a0 : Int32) : xMi mw D cA b l y_MO_isDevice (Cond.code y_MO_isDevice b_MO_isDevice 1 (some .boolean)) { frames := 0, cells := 0, slots := 0, locals := 0 } st [.int a0] (f_MO_isDevice a0) st := by
  refine xMi_of rfl (by decide) (Nat.le_of_ble_eq_true rfl) ?_
  intro p e s m below meth c ls C hlk hr hml hl hP hS
  have hl : lv_has ls 1 [(0, .int a0)] := hl
  refine lv_iload_n C.1 C.2.1 d_MO_isDevice_0 rfl (lv_at hl 0 rfl) ?_
  refine lv_if_lt (tgt := 14) C.1 C.2.1 d_MO_isDevice_1 (by decide) (fun h1 => ?_) (fun h1 => ?_)
  · refine lv_iconst (v := 0) C.1 C.2.1 d_MO_isDevice_14 (by decide) ?_
    exact xrz C hlk hr bz_0 hP hS d_MO_isDevice_15 ⟨by rw [f_MO_isDevice, if_pos h1], rfl⟩
  · refine lv_iload_n C.1 C.2.1 d_MO_isDevice_4 rfl (lv_at hl 0 rfl) ?_
    refine lv_bipush (v := 8) C.1 C.2.1 d_MO_isDevice_5 (by decide) ?_
    refine lv_icmp_ge (tgt := 14) C.1 C.2.1 d_MO_isDevice_7 (by decide) (fun h2 => ?_) (fun h2 => ?_)
    · refine lv_iconst (v := 0) C.1 C.2.1 d_MO_isDevice_14 (by decide) ?_
      exact xrz C hlk hr bz_0 hP hS d_MO_isDevice_15 ⟨by rw [f_MO_isDevice, if_neg h1, if_pos h2], rfl⟩
    · refine lv_iconst (v := 1) C.1 C.2.1 d_MO_isDevice_10 (by decide) ?_
      refine lv_goto (tgt := 15) C.1 C.2.1 d_MO_isDevice_11 (by decide) ?_
      exact xrz C hlk hr bz_1 hP hS d_MO_isDevice_15 ⟨by rw [f_MO_isDevice, if_neg h1, if_neg h2], rfl⟩

def f_MO_isBed (a0 : Int32) : Int32 :=
  if a0 < 0 then 0
  else if 4 ≤ a0 then 0
  else 1
set_option maxRecDepth 100000 in
set_option maxHeartbeats 4000000 in
theorem z_MO_isBed {a0 : Int32} : bz (f_MO_isBed a0) = (f_MO_isBed a0) := by
  unfold f_MO_isBed
  repeat' split
  all_goals first | with_reducible exact bz_0 | with_reducible exact bz_1 | with_reducible exact bz_bz _
set_option maxRecDepth 100000 in
set_option maxHeartbeats 4000000 in
theorem k_MO_isBed (l : Launch) (D : va_G) (cA : Nat → ClassId) (b : Nat) (st : XS) (a0 : Int32) : xMi mw D cA b l y_MO_isBed (Cond.code y_MO_isBed b_MO_isBed 1 (some .boolean)) { frames := 0, cells := 0, slots := 0, locals := 0 } st [.int a0] (f_MO_isBed a0) st := by
  refine xMi_of rfl (by decide) (Nat.le_of_ble_eq_true rfl) ?_
  intro p e s m below meth c ls C hlk hr hml hl hP hS
  have hl : lv_has ls 1 [(0, .int a0)] := hl
  refine lv_iload_n C.1 C.2.1 d_MO_isBed_0 rfl (lv_at hl 0 rfl) ?_
  refine lv_if_lt (tgt := 13) C.1 C.2.1 d_MO_isBed_1 (by decide) (fun h1 => ?_) (fun h1 => ?_)
  · refine lv_iconst (v := 0) C.1 C.2.1 d_MO_isBed_13 (by decide) ?_
    exact xrz C hlk hr bz_0 hP hS d_MO_isBed_14 ⟨by rw [f_MO_isBed, if_pos h1], rfl⟩
  · refine lv_iload_n C.1 C.2.1 d_MO_isBed_4 rfl (lv_at hl 0 rfl) ?_
    refine lv_iconst (v := 4) C.1 C.2.1 d_MO_isBed_5 (by decide) ?_
    refine lv_icmp_ge (tgt := 13) C.1 C.2.1 d_MO_isBed_6 (by decide) (fun h2 => ?_) (fun h2 => ?_)
    · refine lv_iconst (v := 0) C.1 C.2.1 d_MO_isBed_13 (by decide) ?_
      exact xrz C hlk hr bz_0 hP hS d_MO_isBed_14 ⟨by rw [f_MO_isBed, if_neg h1, if_pos h2], rfl⟩
    · refine lv_iconst (v := 1) C.1 C.2.1 d_MO_isBed_9 (by decide) ?_
      refine lv_goto (tgt := 14) C.1 C.2.1 d_MO_isBed_10 (by decide) ?_
      exact xrz C hlk hr bz_1 hP hS d_MO_isBed_14 ⟨by rw [f_MO_isBed, if_neg h1, if_neg h2], rfl⟩

def f_MO_isNumber (a0 : Int32) : Int32 :=
  if a0 < (-100000) then 0
  else if 100000 < a0 then 0
  else 1
set_option maxRecDepth 100000 in
set_option maxHeartbeats 4000000 in
theorem z_MO_isNumber {a0 : Int32} : bz (f_MO_isNumber a0) = (f_MO_isNumber a0) := by
  unfold f_MO_isNumber
  repeat' split
  all_goals first | with_reducible exact bz_0 | with_reducible exact bz_1 | with_reducible exact bz_bz _
set_option maxRecDepth 100000 in
set_option maxHeartbeats 4000000 in
theorem k_MO_isNumber (l : Launch) (D : va_G) (cA : Nat → ClassId) (b : Nat) (st : XS) (a0 : Int32) : xMi mw D cA b l y_MO_isNumber (Cond.code y_MO_isNumber b_MO_isNumber 1 (some .boolean)) { frames := 0, cells := 0, slots := 0, locals := 0 } st [.int a0] (f_MO_isNumber a0) st := by
  refine xMi_of rfl (by decide) (Nat.le_of_ble_eq_true rfl) ?_
  intro p e s m below meth c ls C hlk hr hml hl hP hS
  have hl : lv_has ls 1 [(0, .int a0)] := hl
  refine lv_iload_n C.1 C.2.1 d_MO_isNumber_0 rfl (lv_at hl 0 rfl) ?_
  refine lv_ldc (v := (-100000)) C.1 C.2.1 C.2.2.1 (C.2.2.2.1 _ wg_1093) d_MO_isNumber_1 ?_
  refine lv_icmp_lt (tgt := 16) C.1 C.2.1 d_MO_isNumber_3 (by decide) (fun h1 => ?_) (fun h1 => ?_)
  · refine lv_iconst (v := 0) C.1 C.2.1 d_MO_isNumber_16 (by decide) ?_
    exact xrz C hlk hr bz_0 hP hS d_MO_isNumber_17 ⟨by rw [f_MO_isNumber, if_pos h1], rfl⟩
  · refine lv_iload_n C.1 C.2.1 d_MO_isNumber_6 rfl (lv_at hl 0 rfl) ?_
    refine lv_ldc (v := 100000) C.1 C.2.1 C.2.2.1 (C.2.2.2.1 _ wg_1094) d_MO_isNumber_7 ?_
    refine lv_icmp_gt (tgt := 16) C.1 C.2.1 d_MO_isNumber_9 (by decide) (fun h2 => ?_) (fun h2 => ?_)
    · refine lv_iconst (v := 0) C.1 C.2.1 d_MO_isNumber_16 (by decide) ?_
      exact xrz C hlk hr bz_0 hP hS d_MO_isNumber_17 ⟨by rw [f_MO_isNumber, if_neg h1, if_pos h2], rfl⟩
    · refine lv_iconst (v := 1) C.1 C.2.1 d_MO_isNumber_12 (by decide) ?_
      refine lv_goto (tgt := 17) C.1 C.2.1 d_MO_isNumber_13 (by decide) ?_
      exact xrz C hlk hr bz_1 hP hS d_MO_isNumber_17 ⟨by rw [f_MO_isNumber, if_neg h1, if_neg h2], rfl⟩

def f_MO_isRange (a0 : Int32) (a1 : Int32) (a2 : Int32) : Int32 :=
  if (f_MO_isNumber a0) = 0 then 0
  else if (f_MO_isNumber a1) = 0 then 0
  else if a1 < a0 then 0
  else if a2 < 1 then 0
  else if 100000 < a2 then 0
  else 1
set_option maxRecDepth 100000 in
set_option maxHeartbeats 4000000 in
theorem z_MO_isRange {a0 : Int32} {a1 : Int32} {a2 : Int32} : bz (f_MO_isRange a0 a1 a2) = (f_MO_isRange a0 a1 a2) := by
  unfold f_MO_isRange
  repeat' split
  all_goals first | with_reducible exact bz_0 | with_reducible exact bz_1 | with_reducible exact bz_bz _ | with_reducible exact z_MO_isNumber
set_option maxRecDepth 100000 in
set_option maxHeartbeats 4000000 in
theorem k_MO_isRange (l : Launch) (D : va_G) (cA : Nat → ClassId) (b : Nat) (st : XS) (a0 : Int32) (a1 : Int32) (a2 : Int32) : xMi mw D cA b l y_MO_isRange (Cond.code y_MO_isRange b_MO_isRange 3 (some .boolean)) { frames := 1, cells := 0, slots := 0, locals := 20 } st [.int a0, .int a1, .int a2] (f_MO_isRange a0 a1 a2) st := by
  refine xMi_of rfl (by decide) (Nat.le_of_ble_eq_true rfl) ?_
  intro p e s m below meth c ls C hlk hr hml hl hP hS
  have hl : lv_has ls 3 [(0, .int a0), (1, .int a1), (2, .int a2)] := hl
  refine lv_iload_n C.1 C.2.1 d_MO_isRange_0 rfl (lv_at hl 0 rfl) ?_
  refine xcSi (rest := []) C hml hl.1 (k_MO_isNumber l D cA b st a0) q_MO_isNumber rfl rfl wg_1090 wg_1091 ⟨Nat.le_of_ble_eq_true rfl, Nat.le_of_ble_eq_true rfl⟩ hP hS rfl (Nat.le_of_ble_eq_true rfl) d_MO_isRange_1 rfl (fun H locs hP hS => ?_)
  refine lv_if_eq (tgt := 34) C.1 C.2.1 d_MO_isRange_4 (by decide) (fun h1 => ?_) (fun h1 => ?_)
  · refine lv_iconst (v := 0) C.1 C.2.1 d_MO_isRange_34 (by decide) ?_
    exact xrz C hlk hr bz_0 hP hS d_MO_isRange_35 ⟨by rw [f_MO_isRange, if_pos h1], rfl⟩
  · refine lv_iload_n C.1 C.2.1 d_MO_isRange_7 rfl (lv_at hl 1 rfl) ?_
    refine xcSi (rest := []) C hml hl.1 (k_MO_isNumber l D cA b st a1) q_MO_isNumber rfl rfl wg_1090 wg_1091 ⟨Nat.le_of_ble_eq_true rfl, Nat.le_of_ble_eq_true rfl⟩ hP hS rfl (Nat.le_of_ble_eq_true rfl) d_MO_isRange_8 rfl (fun H locs hP hS => ?_)
    refine lv_if_eq (tgt := 34) C.1 C.2.1 d_MO_isRange_11 (by decide) (fun h2 => ?_) (fun h2 => ?_)
    · refine lv_iconst (v := 0) C.1 C.2.1 d_MO_isRange_34 (by decide) ?_
      exact xrz C hlk hr bz_0 hP hS d_MO_isRange_35 ⟨by rw [f_MO_isRange, if_neg h1, if_pos h2], rfl⟩
    · refine lv_iload_n C.1 C.2.1 d_MO_isRange_14 rfl (lv_at hl 0 rfl) ?_
      refine lv_iload_n C.1 C.2.1 d_MO_isRange_15 rfl (lv_at hl 1 rfl) ?_
      refine lv_icmp_gt (tgt := 34) C.1 C.2.1 d_MO_isRange_16 (by decide) (fun h3 => ?_) (fun h3 => ?_)
      · refine lv_iconst (v := 0) C.1 C.2.1 d_MO_isRange_34 (by decide) ?_
        exact xrz C hlk hr bz_0 hP hS d_MO_isRange_35 ⟨by rw [f_MO_isRange, if_neg h1, if_neg h2, if_pos h3], rfl⟩
      · refine lv_iload_n C.1 C.2.1 d_MO_isRange_19 rfl (lv_at hl 2 rfl) ?_
        refine lv_iconst (v := 1) C.1 C.2.1 d_MO_isRange_20 (by decide) ?_
        refine lv_icmp_lt (tgt := 34) C.1 C.2.1 d_MO_isRange_21 (by decide) (fun h4 => ?_) (fun h4 => ?_)
        · refine lv_iconst (v := 0) C.1 C.2.1 d_MO_isRange_34 (by decide) ?_
          exact xrz C hlk hr bz_0 hP hS d_MO_isRange_35 ⟨by rw [f_MO_isRange, if_neg h1, if_neg h2, if_neg h3, if_pos h4], rfl⟩
        · refine lv_iload_n C.1 C.2.1 d_MO_isRange_24 rfl (lv_at hl 2 rfl) ?_
          refine lv_ldc (v := 100000) C.1 C.2.1 C.2.2.1 (C.2.2.2.1 _ wg_1094) d_MO_isRange_25 ?_
          refine lv_icmp_gt (tgt := 34) C.1 C.2.1 d_MO_isRange_27 (by decide) (fun h5 => ?_) (fun h5 => ?_)
          · refine lv_iconst (v := 0) C.1 C.2.1 d_MO_isRange_34 (by decide) ?_
            exact xrz C hlk hr bz_0 hP hS d_MO_isRange_35 ⟨by rw [f_MO_isRange, if_neg h1, if_neg h2, if_neg h3, if_neg h4, if_pos h5], rfl⟩
          · refine lv_iconst (v := 1) C.1 C.2.1 d_MO_isRange_30 (by decide) ?_
            refine lv_goto (tgt := 35) C.1 C.2.1 d_MO_isRange_31 (by decide) ?_
            exact xrz C hlk hr bz_1 hP hS d_MO_isRange_35 ⟨by rw [f_MO_isRange, if_neg h1, if_neg h2, if_neg h3, if_neg h4, if_neg h5], rfl⟩

def f_MO_fits (a0 : Int32) (a1 : Int32) (a2 : Int32) (a3 : Int32) : Int32 :=
  if a0 < a1 then 0
  else if a2 < a0 then 0
  else if ((a0 - a1) - (a0 - a1) / a3 * a3) = 0 then 1
  else 0
set_option maxRecDepth 100000 in
set_option maxHeartbeats 4000000 in
theorem z_MO_fits {a0 : Int32} {a1 : Int32} {a2 : Int32} {a3 : Int32} : bz (f_MO_fits a0 a1 a2 a3) = (f_MO_fits a0 a1 a2 a3) := by
  unfold f_MO_fits
  repeat' split
  all_goals first | with_reducible exact bz_0 | with_reducible exact bz_1 | with_reducible exact bz_bz _
set_option maxRecDepth 100000 in
set_option maxHeartbeats 4000000 in
theorem k_MO_fits (l : Launch) (D : va_G) (cA : Nat → ClassId) (b : Nat) (st : XS) (a0 : Int32) (a1 : Int32) (a2 : Int32) (a3 : Int32) (hs : ¬ a3 = 0) : xMi mw D cA b l y_MO_fits (Cond.code y_MO_fits b_MO_fits 4 (some .boolean)) { frames := 0, cells := 0, slots := 0, locals := 0 } st [.int a0, .int a1, .int a2, .int a3] (f_MO_fits a0 a1 a2 a3) st := by
  refine xMi_of rfl (by decide) (Nat.le_of_ble_eq_true rfl) ?_
  intro p e s m below meth c ls C hlk hr hml hl hP hS
  have hl : lv_has ls 4 [(0, .int a0), (1, .int a1), (2, .int a2), (3, .int a3)] := hl
  refine lv_iload_n C.1 C.2.1 d_MO_fits_0 rfl (lv_at hl 0 rfl) ?_
  refine lv_iload_n C.1 C.2.1 d_MO_fits_1 rfl (lv_at hl 1 rfl) ?_
  refine lv_icmp_lt (tgt := 22) C.1 C.2.1 d_MO_fits_2 (by decide) (fun h1 => ?_) (fun h1 => ?_)
  · refine lv_iconst (v := 0) C.1 C.2.1 d_MO_fits_22 (by decide) ?_
    exact xrz C hlk hr bz_0 hP hS d_MO_fits_23 ⟨by rw [f_MO_fits, if_pos h1], rfl⟩
  · refine lv_iload_n C.1 C.2.1 d_MO_fits_5 rfl (lv_at hl 0 rfl) ?_
    refine lv_iload_n C.1 C.2.1 d_MO_fits_6 rfl (lv_at hl 2 rfl) ?_
    refine lv_icmp_gt (tgt := 22) C.1 C.2.1 d_MO_fits_7 (by decide) (fun h2 => ?_) (fun h2 => ?_)
    · refine lv_iconst (v := 0) C.1 C.2.1 d_MO_fits_22 (by decide) ?_
      exact xrz C hlk hr bz_0 hP hS d_MO_fits_23 ⟨by rw [f_MO_fits, if_neg h1, if_pos h2], rfl⟩
    · refine lv_iload_n C.1 C.2.1 d_MO_fits_10 rfl (lv_at hl 0 rfl) ?_
      refine lv_iload_n C.1 C.2.1 d_MO_fits_11 rfl (lv_at hl 1 rfl) ?_
      refine lv_isub C.1 C.2.1 d_MO_fits_12 ?_
      refine lv_iload_n C.1 C.2.1 d_MO_fits_13 rfl (lv_at hl 3 rfl) ?_
      refine lv_irem C.1 C.2.1 d_MO_fits_14 hs ?_
      refine lv_if_ne (tgt := 22) C.1 C.2.1 d_MO_fits_15 (by decide) (fun h3 => ?_) (fun h3 => ?_)
      · refine lv_iconst (v := 0) C.1 C.2.1 d_MO_fits_22 (by decide) ?_
        exact xrz C hlk hr bz_0 hP hS d_MO_fits_23 ⟨by rw [f_MO_fits, if_neg h1, if_neg h2, if_neg h3], rfl⟩
      · refine lv_iconst (v := 1) C.1 C.2.1 d_MO_fits_18 (by decide) ?_
        refine lv_goto (tgt := 23) C.1 C.2.1 d_MO_fits_19 (by decide) ?_
        exact xrz C hlk hr bz_1 hP hS d_MO_fits_23 ⟨by rw [f_MO_fits, if_neg h1, if_neg h2, if_pos h3], rfl⟩

def f_MO_isController (a0 : Int32) : Int32 :=
  if a0 < 0 then 0
  else if 4 ≤ a0 then 0
  else 1
set_option maxRecDepth 100000 in
set_option maxHeartbeats 4000000 in
theorem z_MO_isController {a0 : Int32} : bz (f_MO_isController a0) = (f_MO_isController a0) := by
  unfold f_MO_isController
  repeat' split
  all_goals first | with_reducible exact bz_0 | with_reducible exact bz_1 | with_reducible exact bz_bz _
set_option maxRecDepth 100000 in
set_option maxHeartbeats 4000000 in
theorem k_MO_isController (l : Launch) (D : va_G) (cA : Nat → ClassId) (b : Nat) (st : XS) (a0 : Int32) : xMi mw D cA b l y_MO_isController (Cond.code y_MO_isController b_MO_isController 1 (some .boolean)) { frames := 0, cells := 0, slots := 0, locals := 0 } st [.int a0] (f_MO_isController a0) st := by
  refine xMi_of rfl (by decide) (Nat.le_of_ble_eq_true rfl) ?_
  intro p e s m below meth c ls C hlk hr hml hl hP hS
  have hl : lv_has ls 1 [(0, .int a0)] := hl
  refine lv_iload_n C.1 C.2.1 d_MO_isController_0 rfl (lv_at hl 0 rfl) ?_
  refine lv_if_lt (tgt := 13) C.1 C.2.1 d_MO_isController_1 (by decide) (fun h1 => ?_) (fun h1 => ?_)
  · refine lv_iconst (v := 0) C.1 C.2.1 d_MO_isController_13 (by decide) ?_
    exact xrz C hlk hr bz_0 hP hS d_MO_isController_14 ⟨by rw [f_MO_isController, if_pos h1], rfl⟩
  · refine lv_iload_n C.1 C.2.1 d_MO_isController_4 rfl (lv_at hl 0 rfl) ?_
    refine lv_iconst (v := 4) C.1 C.2.1 d_MO_isController_5 (by decide) ?_
    refine lv_icmp_ge (tgt := 13) C.1 C.2.1 d_MO_isController_6 (by decide) (fun h2 => ?_) (fun h2 => ?_)
    · refine lv_iconst (v := 0) C.1 C.2.1 d_MO_isController_13 (by decide) ?_
      exact xrz C hlk hr bz_0 hP hS d_MO_isController_14 ⟨by rw [f_MO_isController, if_neg h1, if_pos h2], rfl⟩
    · refine lv_iconst (v := 1) C.1 C.2.1 d_MO_isController_9 (by decide) ?_
      refine lv_goto (tgt := 14) C.1 C.2.1 d_MO_isController_10 (by decide) ?_
      exact xrz C hlk hr bz_1 hP hS d_MO_isController_14 ⟨by rw [f_MO_isController, if_neg h1, if_neg h2], rfl⟩
