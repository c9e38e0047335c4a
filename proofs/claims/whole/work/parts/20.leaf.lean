def f_BN_isDevice (a0 : Int32) : Int32 :=
  if a0 < 0 then 0
  else if 8 ≤ a0 then 0
  else 1
set_option maxRecDepth 100000 in
set_option maxHeartbeats 4000000 in
theorem z_BN_isDevice {a0 : Int32} : bz (f_BN_isDevice a0) = (f_BN_isDevice a0) := by
  unfold f_BN_isDevice
  repeat' split
  all_goals first | with_reducible exact bz_0 | with_reducible exact bz_1 | with_reducible exact bz_bz _
set_option maxRecDepth 100000 in
set_option maxHeartbeats 4000000 in
theorem k_BN_isDevice (l : Launch) (D : va_G) (cA : Nat → ClassId) (b : Nat) (st : XS) (a0 : Int32) : xMi cw D cA b l y_BN_isDevice (Cond.code y_BN_isDevice b_BN_isDevice 1 (some .boolean)) { frames := 0, cells := 0, slots := 0, locals := 0 } st [.int a0] (f_BN_isDevice a0) st := by
  refine xMi_of rfl (by decide) (Nat.le_of_ble_eq_true rfl) ?_
  intro p e s m below meth c ls C hlk hr hml hl hP hS
  have hl : lv_has ls 1 [(0, .int a0)] := hl
  refine lv_iload_n C.1 C.2.1 d_BN_isDevice_0 rfl (lv_at hl 0 rfl) ?_
  refine lv_if_lt (tgt := 14) C.1 C.2.1 d_BN_isDevice_1 (by decide) (fun h1 => ?_) (fun h1 => ?_)
  · refine lv_iconst (v := 0) C.1 C.2.1 d_BN_isDevice_14 (by decide) ?_
    exact xrz C hlk hr bz_0 hP hS d_BN_isDevice_15 ⟨by rw [f_BN_isDevice, if_pos h1], rfl⟩
  · refine lv_iload_n C.1 C.2.1 d_BN_isDevice_4 rfl (lv_at hl 0 rfl) ?_
    refine lv_bipush (v := 8) C.1 C.2.1 d_BN_isDevice_5 (by decide) ?_
    refine lv_icmp_ge (tgt := 14) C.1 C.2.1 d_BN_isDevice_7 (by decide) (fun h2 => ?_) (fun h2 => ?_)
    · refine lv_iconst (v := 0) C.1 C.2.1 d_BN_isDevice_14 (by decide) ?_
      exact xrz C hlk hr bz_0 hP hS d_BN_isDevice_15 ⟨by rw [f_BN_isDevice, if_neg h1, if_pos h2], rfl⟩
    · refine lv_iconst (v := 1) C.1 C.2.1 d_BN_isDevice_10 (by decide) ?_
      refine lv_goto (tgt := 15) C.1 C.2.1 d_BN_isDevice_11 (by decide) ?_
      exact xrz C hlk hr bz_1 hP hS d_BN_isDevice_15 ⟨by rw [f_BN_isDevice, if_neg h1, if_neg h2], rfl⟩

def f_BN_isBed (a0 : Int32) : Int32 :=
  if a0 < 0 then 0
  else if 4 ≤ a0 then 0
  else 1
set_option maxRecDepth 100000 in
set_option maxHeartbeats 4000000 in
theorem z_BN_isBed {a0 : Int32} : bz (f_BN_isBed a0) = (f_BN_isBed a0) := by
  unfold f_BN_isBed
  repeat' split
  all_goals first | with_reducible exact bz_0 | with_reducible exact bz_1 | with_reducible exact bz_bz _
set_option maxRecDepth 100000 in
set_option maxHeartbeats 4000000 in
theorem k_BN_isBed (l : Launch) (D : va_G) (cA : Nat → ClassId) (b : Nat) (st : XS) (a0 : Int32) : xMi cw D cA b l y_BN_isBed (Cond.code y_BN_isBed b_BN_isBed 1 (some .boolean)) { frames := 0, cells := 0, slots := 0, locals := 0 } st [.int a0] (f_BN_isBed a0) st := by
  refine xMi_of rfl (by decide) (Nat.le_of_ble_eq_true rfl) ?_
  intro p e s m below meth c ls C hlk hr hml hl hP hS
  have hl : lv_has ls 1 [(0, .int a0)] := hl
  refine lv_iload_n C.1 C.2.1 d_BN_isBed_0 rfl (lv_at hl 0 rfl) ?_
  refine lv_if_lt (tgt := 13) C.1 C.2.1 d_BN_isBed_1 (by decide) (fun h1 => ?_) (fun h1 => ?_)
  · refine lv_iconst (v := 0) C.1 C.2.1 d_BN_isBed_13 (by decide) ?_
    exact xrz C hlk hr bz_0 hP hS d_BN_isBed_14 ⟨by rw [f_BN_isBed, if_pos h1], rfl⟩
  · refine lv_iload_n C.1 C.2.1 d_BN_isBed_4 rfl (lv_at hl 0 rfl) ?_
    refine lv_iconst (v := 4) C.1 C.2.1 d_BN_isBed_5 (by decide) ?_
    refine lv_icmp_ge (tgt := 13) C.1 C.2.1 d_BN_isBed_6 (by decide) (fun h2 => ?_) (fun h2 => ?_)
    · refine lv_iconst (v := 0) C.1 C.2.1 d_BN_isBed_13 (by decide) ?_
      exact xrz C hlk hr bz_0 hP hS d_BN_isBed_14 ⟨by rw [f_BN_isBed, if_neg h1, if_pos h2], rfl⟩
    · refine lv_iconst (v := 1) C.1 C.2.1 d_BN_isBed_9 (by decide) ?_
      refine lv_goto (tgt := 14) C.1 C.2.1 d_BN_isBed_10 (by decide) ?_
      exact xrz C hlk hr bz_1 hP hS d_BN_isBed_14 ⟨by rw [f_BN_isBed, if_neg h1, if_neg h2], rfl⟩

def f_BN_isUnit (a0 : Int32) : Int32 :=
  if a0 < 0 then 0
  else if 16 ≤ a0 then 0
  else 1
set_option maxRecDepth 100000 in
set_option maxHeartbeats 4000000 in
theorem z_BN_isUnit {a0 : Int32} : bz (f_BN_isUnit a0) = (f_BN_isUnit a0) := by
  unfold f_BN_isUnit
  repeat' split
  all_goals first | with_reducible exact bz_0 | with_reducible exact bz_1 | with_reducible exact bz_bz _
set_option maxRecDepth 100000 in
set_option maxHeartbeats 4000000 in
theorem k_BN_isUnit (l : Launch) (D : va_G) (cA : Nat → ClassId) (b : Nat) (st : XS) (a0 : Int32) : xMi cw D cA b l y_BN_isUnit (Cond.code y_BN_isUnit b_BN_isUnit 1 (some .boolean)) { frames := 0, cells := 0, slots := 0, locals := 0 } st [.int a0] (f_BN_isUnit a0) st := by
  refine xMi_of rfl (by decide) (Nat.le_of_ble_eq_true rfl) ?_
  intro p e s m below meth c ls C hlk hr hml hl hP hS
  have hl : lv_has ls 1 [(0, .int a0)] := hl
  refine lv_iload_n C.1 C.2.1 d_BN_isUnit_0 rfl (lv_at hl 0 rfl) ?_
  refine lv_if_lt (tgt := 14) C.1 C.2.1 d_BN_isUnit_1 (by decide) (fun h1 => ?_) (fun h1 => ?_)
  · refine lv_iconst (v := 0) C.1 C.2.1 d_BN_isUnit_14 (by decide) ?_
    exact xrz C hlk hr bz_0 hP hS d_BN_isUnit_15 ⟨by rw [f_BN_isUnit, if_pos h1], rfl⟩
  · refine lv_iload_n C.1 C.2.1 d_BN_isUnit_4 rfl (lv_at hl 0 rfl) ?_
    refine lv_bipush (v := 16) C.1 C.2.1 d_BN_isUnit_5 (by decide) ?_
    refine lv_icmp_ge (tgt := 14) C.1 C.2.1 d_BN_isUnit_7 (by decide) (fun h2 => ?_) (fun h2 => ?_)
    · refine lv_iconst (v := 0) C.1 C.2.1 d_BN_isUnit_14 (by decide) ?_
      exact xrz C hlk hr bz_0 hP hS d_BN_isUnit_15 ⟨by rw [f_BN_isUnit, if_neg h1, if_pos h2], rfl⟩
    · refine lv_iconst (v := 1) C.1 C.2.1 d_BN_isUnit_10 (by decide) ?_
      refine lv_goto (tgt := 15) C.1 C.2.1 d_BN_isUnit_11 (by decide) ?_
      exact xrz C hlk hr bz_1 hP hS d_BN_isUnit_15 ⟨by rw [f_BN_isUnit, if_neg h1, if_neg h2], rfl⟩

def f_BN_isController (a0 : Int32) : Int32 :=
  if a0 < 0 then 0
  else if 4 ≤ a0 then 0
  else 1
set_option maxRecDepth 100000 in
set_option maxHeartbeats 4000000 in
theorem z_BN_isController {a0 : Int32} : bz (f_BN_isController a0) = (f_BN_isController a0) := by
  unfold f_BN_isController
  repeat' split
  all_goals first | with_reducible exact bz_0 | with_reducible exact bz_1 | with_reducible exact bz_bz _
set_option maxRecDepth 100000 in
set_option maxHeartbeats 4000000 in
theorem k_BN_isController (l : Launch) (D : va_G) (cA : Nat → ClassId) (b : Nat) (st : XS) (a0 : Int32) : xMi cw D cA b l y_BN_isController (Cond.code y_BN_isController b_BN_isController 1 (some .boolean)) { frames := 0, cells := 0, slots := 0, locals := 0 } st [.int a0] (f_BN_isController a0) st := by
  refine xMi_of rfl (by decide) (Nat.le_of_ble_eq_true rfl) ?_
  intro p e s m below meth c ls C hlk hr hml hl hP hS
  have hl : lv_has ls 1 [(0, .int a0)] := hl
  refine lv_iload_n C.1 C.2.1 d_BN_isController_0 rfl (lv_at hl 0 rfl) ?_
  refine lv_if_lt (tgt := 13) C.1 C.2.1 d_BN_isController_1 (by decide) (fun h1 => ?_) (fun h1 => ?_)
  · refine lv_iconst (v := 0) C.1 C.2.1 d_BN_isController_13 (by decide) ?_
    exact xrz C hlk hr bz_0 hP hS d_BN_isController_14 ⟨by rw [f_BN_isController, if_pos h1], rfl⟩
  · refine lv_iload_n C.1 C.2.1 d_BN_isController_4 rfl (lv_at hl 0 rfl) ?_
    refine lv_iconst (v := 4) C.1 C.2.1 d_BN_isController_5 (by decide) ?_
    refine lv_icmp_ge (tgt := 13) C.1 C.2.1 d_BN_isController_6 (by decide) (fun h2 => ?_) (fun h2 => ?_)
    · refine lv_iconst (v := 0) C.1 C.2.1 d_BN_isController_13 (by decide) ?_
      exact xrz C hlk hr bz_0 hP hS d_BN_isController_14 ⟨by rw [f_BN_isController, if_neg h1, if_pos h2], rfl⟩
    · refine lv_iconst (v := 1) C.1 C.2.1 d_BN_isController_9 (by decide) ?_
      refine lv_goto (tgt := 14) C.1 C.2.1 d_BN_isController_10 (by decide) ?_
      exact xrz C hlk hr bz_1 hP hS d_BN_isController_14 ⟨by rw [f_BN_isController, if_neg h1, if_neg h2], rfl⟩

def f_BN_isNumber (a0 : Int32) : Int32 :=
  if a0 < (-100000) then 0
  else if 100000 < a0 then 0
  else 1
set_option maxRecDepth 100000 in
set_option maxHeartbeats 4000000 in
theorem z_BN_isNumber {a0 : Int32} : bz (f_BN_isNumber a0) = (f_BN_isNumber a0) := by
  unfold f_BN_isNumber
  repeat' split
  all_goals first | with_reducible exact bz_0 | with_reducible exact bz_1 | with_reducible exact bz_bz _
set_option maxRecDepth 100000 in
set_option maxHeartbeats 4000000 in
theorem k_BN_isNumber (l : Launch) (D : va_G) (cA : Nat → ClassId) (b : Nat) (st : XS) (a0 : Int32) : xMi cw D cA b l y_BN_isNumber (Cond.code y_BN_isNumber b_BN_isNumber 1 (some .boolean)) { frames := 0, cells := 0, slots := 0, locals := 0 } st [.int a0] (f_BN_isNumber a0) st := by
  refine xMi_of rfl (by decide) (Nat.le_of_ble_eq_true rfl) ?_
  intro p e s m below meth c ls C hlk hr hml hl hP hS
  have hl : lv_has ls 1 [(0, .int a0)] := hl
  refine lv_iload_n C.1 C.2.1 d_BN_isNumber_0 rfl (lv_at hl 0 rfl) ?_
  refine lv_ldcw (v := (-100000)) C.1 C.2.1 C.2.2.1 (C.2.2.2.1 _ wg_435) d_BN_isNumber_1 ?_
  refine lv_icmp_lt (tgt := 18) C.1 C.2.1 d_BN_isNumber_4 (by decide) (fun h1 => ?_) (fun h1 => ?_)
  · refine lv_iconst (v := 0) C.1 C.2.1 d_BN_isNumber_18 (by decide) ?_
    exact xrz C hlk hr bz_0 hP hS d_BN_isNumber_19 ⟨by rw [f_BN_isNumber, if_pos h1], rfl⟩
  · refine lv_iload_n C.1 C.2.1 d_BN_isNumber_7 rfl (lv_at hl 0 rfl) ?_
    refine lv_ldcw (v := 100000) C.1 C.2.1 C.2.2.1 (C.2.2.2.1 _ wg_436) d_BN_isNumber_8 ?_
    refine lv_icmp_gt (tgt := 18) C.1 C.2.1 d_BN_isNumber_11 (by decide) (fun h2 => ?_) (fun h2 => ?_)
    · refine lv_iconst (v := 0) C.1 C.2.1 d_BN_isNumber_18 (by decide) ?_
      exact xrz C hlk hr bz_0 hP hS d_BN_isNumber_19 ⟨by rw [f_BN_isNumber, if_neg h1, if_pos h2], rfl⟩
    · refine lv_iconst (v := 1) C.1 C.2.1 d_BN_isNumber_14 (by decide) ?_
      refine lv_goto (tgt := 19) C.1 C.2.1 d_BN_isNumber_15 (by decide) ?_
      exact xrz C hlk hr bz_1 hP hS d_BN_isNumber_19 ⟨by rw [f_BN_isNumber, if_neg h1, if_neg h2], rfl⟩

def f_BN_isSpan (a0 : Int32) : Int32 :=
  if a0 < 0 then 0
  else if 100000 < a0 then 0
  else 1
set_option maxRecDepth 100000 in
set_option maxHeartbeats 4000000 in
theorem z_BN_isSpan {a0 : Int32} : bz (f_BN_isSpan a0) = (f_BN_isSpan a0) := by
  unfold f_BN_isSpan
  repeat' split
  all_goals first | with_reducible exact bz_0 | with_reducible exact bz_1 | with_reducible exact bz_bz _
set_option maxRecDepth 100000 in
set_option maxHeartbeats 4000000 in
theorem k_BN_isSpan (l : Launch) (D : va_G) (cA : Nat → ClassId) (b : Nat) (st : XS) (a0 : Int32) : xMi cw D cA b l y_BN_isSpan (Cond.code y_BN_isSpan b_BN_isSpan 1 (some .boolean)) { frames := 0, cells := 0, slots := 0, locals := 0 } st [.int a0] (f_BN_isSpan a0) st := by
  refine xMi_of rfl (by decide) (Nat.le_of_ble_eq_true rfl) ?_
  intro p e s m below meth c ls C hlk hr hml hl hP hS
  have hl : lv_has ls 1 [(0, .int a0)] := hl
  refine lv_iload_n C.1 C.2.1 d_BN_isSpan_0 rfl (lv_at hl 0 rfl) ?_
  refine lv_if_lt (tgt := 15) C.1 C.2.1 d_BN_isSpan_1 (by decide) (fun h1 => ?_) (fun h1 => ?_)
  · refine lv_iconst (v := 0) C.1 C.2.1 d_BN_isSpan_15 (by decide) ?_
    exact xrz C hlk hr bz_0 hP hS d_BN_isSpan_16 ⟨by rw [f_BN_isSpan, if_pos h1], rfl⟩
  · refine lv_iload_n C.1 C.2.1 d_BN_isSpan_4 rfl (lv_at hl 0 rfl) ?_
    refine lv_ldcw (v := 100000) C.1 C.2.1 C.2.2.1 (C.2.2.2.1 _ wg_436) d_BN_isSpan_5 ?_
    refine lv_icmp_gt (tgt := 15) C.1 C.2.1 d_BN_isSpan_8 (by decide) (fun h2 => ?_) (fun h2 => ?_)
    · refine lv_iconst (v := 0) C.1 C.2.1 d_BN_isSpan_15 (by decide) ?_
      exact xrz C hlk hr bz_0 hP hS d_BN_isSpan_16 ⟨by rw [f_BN_isSpan, if_neg h1, if_pos h2], rfl⟩
    · refine lv_iconst (v := 1) C.1 C.2.1 d_BN_isSpan_11 (by decide) ?_
      refine lv_goto (tgt := 16) C.1 C.2.1 d_BN_isSpan_12 (by decide) ?_
      exact xrz C hlk hr bz_1 hP hS d_BN_isSpan_16 ⟨by rw [f_BN_isSpan, if_neg h1, if_neg h2], rfl⟩

def f_BN_isRange (a0 : Int32) (a1 : Int32) (a2 : Int32) : Int32 :=
  if (f_BN_isNumber a0) = 0 then 0
  else if (f_BN_isNumber a1) = 0 then 0
  else if a1 < a0 then 0
  else if a2 < 1 then 0
  else if 100000 < a2 then 0
  else 1
set_option maxRecDepth 100000 in
set_option maxHeartbeats 4000000 in
theorem z_BN_isRange {a0 : Int32} {a1 : Int32} {a2 : Int32} : bz (f_BN_isRange a0 a1 a2) = (f_BN_isRange a0 a1 a2) := by
  unfold f_BN_isRange
  repeat' split
  all_goals first | with_reducible exact bz_0 | with_reducible exact bz_1 | with_reducible exact bz_bz _ | with_reducible exact z_BN_isNumber
set_option maxRecDepth 100000 in
set_option maxHeartbeats 4000000 in
theorem k_BN_isRange (l : Launch) (D : va_G) (cA : Nat → ClassId) (b : Nat) (st : XS) (a0 : Int32) (a1 : Int32) (a2 : Int32) : xMi cw D cA b l y_BN_isRange (Cond.code y_BN_isRange b_BN_isRange 3 (some .boolean)) { frames := 1, cells := 0, slots := 0, locals := 20 } st [.int a0, .int a1, .int a2] (f_BN_isRange a0 a1 a2) st := by
  refine xMi_of rfl (by decide) (Nat.le_of_ble_eq_true rfl) ?_
  intro p e s m below meth c ls C hlk hr hml hl hP hS
  have hl : lv_has ls 3 [(0, .int a0), (1, .int a1), (2, .int a2)] := hl
  refine lv_iload_n C.1 C.2.1 d_BN_isRange_0 rfl (lv_at hl 0 rfl) ?_
  refine xcSi (rest := []) C hml hl.1 (k_BN_isNumber l D cA b st a0) q_BN_isNumber rfl rfl wg_432 wg_433 ⟨Nat.le_of_ble_eq_true rfl, Nat.le_of_ble_eq_true rfl⟩ hP hS rfl (Nat.le_of_ble_eq_true rfl) d_BN_isRange_1 rfl (fun H locs hP hS => ?_)
  refine lv_if_eq (tgt := 35) C.1 C.2.1 d_BN_isRange_4 (by decide) (fun h1 => ?_) (fun h1 => ?_)
  · refine lv_iconst (v := 0) C.1 C.2.1 d_BN_isRange_35 (by decide) ?_
    exact xrz C hlk hr bz_0 hP hS d_BN_isRange_36 ⟨by rw [f_BN_isRange, if_pos h1], rfl⟩
  · refine lv_iload_n C.1 C.2.1 d_BN_isRange_7 rfl (lv_at hl 1 rfl) ?_
    refine xcSi (rest := []) C hml hl.1 (k_BN_isNumber l D cA b st a1) q_BN_isNumber rfl rfl wg_432 wg_433 ⟨Nat.le_of_ble_eq_true rfl, Nat.le_of_ble_eq_true rfl⟩ hP hS rfl (Nat.le_of_ble_eq_true rfl) d_BN_isRange_8 rfl (fun H locs hP hS => ?_)
    refine lv_if_eq (tgt := 35) C.1 C.2.1 d_BN_isRange_11 (by decide) (fun h2 => ?_) (fun h2 => ?_)
    · refine lv_iconst (v := 0) C.1 C.2.1 d_BN_isRange_35 (by decide) ?_
      exact xrz C hlk hr bz_0 hP hS d_BN_isRange_36 ⟨by rw [f_BN_isRange, if_neg h1, if_pos h2], rfl⟩
    · refine lv_iload_n C.1 C.2.1 d_BN_isRange_14 rfl (lv_at hl 0 rfl) ?_
      refine lv_iload_n C.1 C.2.1 d_BN_isRange_15 rfl (lv_at hl 1 rfl) ?_
      refine lv_icmp_gt (tgt := 35) C.1 C.2.1 d_BN_isRange_16 (by decide) (fun h3 => ?_) (fun h3 => ?_)
      · refine lv_iconst (v := 0) C.1 C.2.1 d_BN_isRange_35 (by decide) ?_
        exact xrz C hlk hr bz_0 hP hS d_BN_isRange_36 ⟨by rw [f_BN_isRange, if_neg h1, if_neg h2, if_pos h3], rfl⟩
      · refine lv_iload_n C.1 C.2.1 d_BN_isRange_19 rfl (lv_at hl 2 rfl) ?_
        refine lv_iconst (v := 1) C.1 C.2.1 d_BN_isRange_20 (by decide) ?_
        refine lv_icmp_lt (tgt := 35) C.1 C.2.1 d_BN_isRange_21 (by decide) (fun h4 => ?_) (fun h4 => ?_)
        · refine lv_iconst (v := 0) C.1 C.2.1 d_BN_isRange_35 (by decide) ?_
          exact xrz C hlk hr bz_0 hP hS d_BN_isRange_36 ⟨by rw [f_BN_isRange, if_neg h1, if_neg h2, if_neg h3, if_pos h4], rfl⟩
        · refine lv_iload_n C.1 C.2.1 d_BN_isRange_24 rfl (lv_at hl 2 rfl) ?_
          refine lv_ldcw (v := 100000) C.1 C.2.1 C.2.2.1 (C.2.2.2.1 _ wg_436) d_BN_isRange_25 ?_
          refine lv_icmp_gt (tgt := 35) C.1 C.2.1 d_BN_isRange_28 (by decide) (fun h5 => ?_) (fun h5 => ?_)
          · refine lv_iconst (v := 0) C.1 C.2.1 d_BN_isRange_35 (by decide) ?_
            exact xrz C hlk hr bz_0 hP hS d_BN_isRange_36 ⟨by rw [f_BN_isRange, if_neg h1, if_neg h2, if_neg h3, if_neg h4, if_pos h5], rfl⟩
          · refine lv_iconst (v := 1) C.1 C.2.1 d_BN_isRange_31 (by decide) ?_
            refine lv_goto (tgt := 36) C.1 C.2.1 d_BN_isRange_32 (by decide) ?_
            exact xrz C hlk hr bz_1 hP hS d_BN_isRange_36 ⟨by rw [f_BN_isRange, if_neg h1, if_neg h2, if_neg h3, if_neg h4, if_neg h5], rfl⟩

def f_RA_set (st : XS) (i : Nat) (a1 : Int32) (a2 : Int32) (a3 : Int32) : XS :=
  (xu (xu (xu st 11 0 i a1) 11 1 i a2) 11 2 i a3)
set_option maxRecDepth 100000 in
set_option maxHeartbeats 4000000 in
theorem fr_RA_set {st : XS} {i : Nat} {a1 : Int32} {a2 : Int32} {a3 : Int32} {a' k' i' : Nat} (h : (a', k') ∉ ([(11, 0), (11, 1), (11, 2)] : List (Nat × Nat))) (h2 : a' ∉ ([] : List Nat)) : (f_RA_set st i a1 a2 a3) a' k' i' = st a' k' i' := by
  unfold f_RA_set
  repeat' split
  all_goals (try dsimp only)
  all_goals (repeat (first | with_reducible rfl | rw [xu_f (fun e => h (by rw [e]; decide))]))
theorem p_RA_set {st : XS} {i : Nat} {a1 : Int32} {a2 : Int32} {a3 : Int32} (h : pok st) : pok (f_RA_set st i a1 a2 a3) := pok_of h (fr_RA_set (by decide) (by decide)) (fun _ => fr_RA_set (by simp) (by decide))
set_option maxRecDepth 100000 in
set_option maxHeartbeats 4000000 in
theorem k_RA_set (l : Launch) (D : va_G) (cA : Nat → ClassId) (b : Nat) (st : XS) (ji i : Nat) (hi : xo cw ji 11 i) (a1 : Int32) (a2 : Int32) (a3 : Int32) : xMv cw D cA b l y_RA_set (Cond.code y_RA_set b_RA_set 4 none) { frames := 0, cells := 0, slots := 0, locals := 0 } st [.ref (b + ji), .int a1, .int a2, .int a3] (f_RA_set st i a1 a2 a3) := by
  refine xMv_of rfl (by decide) (Nat.le_of_ble_eq_true rfl) ?_
  intro p e s m below meth c ls C hlk hr hml hl hP hS
  have hl : lv_has ls 4 [(0, .ref (b + ji)), (1, .int a1), (2, .int a2), (3, .int a3)] := hl
  refine lv_aload_n C.1 C.2.1 d_RA_set_0 rfl (lv_at hl 0 rfl) ?_
  refine lv_iload_n C.1 C.2.1 d_RA_set_1 rfl (lv_at hl 1 rfl) ?_
  refine xput cw_inj C hP hS hi rfl c_RA (k := 0) (x := a1) (by decide) wg_133 rfl rfl rfl rfl d_RA_set_2 (fun H locs hP hS => ?_)
  refine lv_aload_n C.1 C.2.1 d_RA_set_5 rfl (lv_at hl 0 rfl) ?_
  refine lv_iload_n C.1 C.2.1 d_RA_set_6 rfl (lv_at hl 2 rfl) ?_
  refine xput cw_inj C hP hS hi rfl c_RA (k := 1) (x := a2) (by decide) wg_134 rfl rfl rfl rfl d_RA_set_7 (fun H locs hP hS => ?_)
  refine lv_aload_n C.1 C.2.1 d_RA_set_10 rfl (lv_at hl 0 rfl) ?_
  refine lv_iload_n C.1 C.2.1 d_RA_set_11 rfl (lv_at hl 3 rfl) ?_
  refine xput cw_inj C hP hS hi rfl c_RA (k := 2) (x := a3) (by decide) wg_135 rfl rfl rfl rfl d_RA_set_12 (fun H locs hP hS => ?_)
  exact xrv C hlk hr hP hS d_RA_set_15 (by rw [f_RA_set])

def f_RA_fits (st : XS) (i : Nat) (a1 : Int32) : Int32 :=
  if a1 < (st 11 0 i) then 0
  else if (st 11 1 i) < a1 then 0
  else if (st 11 2 i) < 1 then 0
  else if ((a1 - (st 11 0 i)) - (a1 - (st 11 0 i)) / (st 11 2 i) * (st 11 2 i)) = 0 then 1
  else 0
set_option maxRecDepth 100000 in
set_option maxHeartbeats 4000000 in
theorem z_RA_fits {st : XS} {i : Nat} {a1 : Int32} : bz (f_RA_fits st i a1) = (f_RA_fits st i a1) := by
  unfold f_RA_fits
  repeat' split
  all_goals first | with_reducible exact bz_0 | with_reducible exact bz_1 | with_reducible exact bz_bz _
set_option maxRecDepth 100000 in
set_option maxHeartbeats 4000000 in
theorem k_RA_fits (l : Launch) (D : va_G) (cA : Nat → ClassId) (b : Nat) (st : XS) (ji i : Nat) (hi : xo cw ji 11 i) (a1 : Int32) : xMi cw D cA b l y_RA_fits (Cond.code y_RA_fits b_RA_fits 2 (some .boolean)) { frames := 0, cells := 0, slots := 0, locals := 0 } st [.ref (b + ji), .int a1] (f_RA_fits st i a1) st := by
  refine xMi_of rfl (by decide) (Nat.le_of_ble_eq_true rfl) ?_
  intro p e s m below meth c ls C hlk hr hml hl hP hS
  have hl : lv_has ls 2 [(0, .ref (b + ji)), (1, .int a1)] := hl
  refine lv_iload_n C.1 C.2.1 d_RA_fits_0 rfl (lv_at hl 1 rfl) ?_
  refine lv_aload_n C.1 C.2.1 d_RA_fits_1 rfl (lv_at hl 0 rfl) ?_
  refine xget C hP hi rfl c_RA (k := 0) (v := .int (st 11 0 i)) (by decide) wg_133 rfl d_RA_fits_2 ?_
  refine lv_icmp_lt (tgt := 42) C.1 C.2.1 d_RA_fits_5 (by decide) (fun h1 => ?_) (fun h1 => ?_)
  · refine lv_iconst (v := 0) C.1 C.2.1 d_RA_fits_42 (by decide) ?_
    exact xrz C hlk hr bz_0 hP hS d_RA_fits_43 ⟨by rw [f_RA_fits, if_pos h1], rfl⟩
  · refine lv_iload_n C.1 C.2.1 d_RA_fits_8 rfl (lv_at hl 1 rfl) ?_
    refine lv_aload_n C.1 C.2.1 d_RA_fits_9 rfl (lv_at hl 0 rfl) ?_
    refine xget C hP hi rfl c_RA (k := 1) (v := .int (st 11 1 i)) (by decide) wg_134 rfl d_RA_fits_10 ?_
    refine lv_icmp_gt (tgt := 42) C.1 C.2.1 d_RA_fits_13 (by decide) (fun h2 => ?_) (fun h2 => ?_)
    · refine lv_iconst (v := 0) C.1 C.2.1 d_RA_fits_42 (by decide) ?_
      exact xrz C hlk hr bz_0 hP hS d_RA_fits_43 ⟨by rw [f_RA_fits, if_neg h1, if_pos h2], rfl⟩
    · refine lv_aload_n C.1 C.2.1 d_RA_fits_16 rfl (lv_at hl 0 rfl) ?_
      refine xget C hP hi rfl c_RA (k := 2) (v := .int (st 11 2 i)) (by decide) wg_135 rfl d_RA_fits_17 ?_
      refine lv_iconst (v := 1) C.1 C.2.1 d_RA_fits_20 (by decide) ?_
      refine lv_icmp_lt (tgt := 42) C.1 C.2.1 d_RA_fits_21 (by decide) (fun h3 => ?_) (fun h3 => ?_)
      · refine lv_iconst (v := 0) C.1 C.2.1 d_RA_fits_42 (by decide) ?_
        exact xrz C hlk hr bz_0 hP hS d_RA_fits_43 ⟨by rw [f_RA_fits, if_neg h1, if_neg h2, if_pos h3], rfl⟩
      · refine lv_iload_n C.1 C.2.1 d_RA_fits_24 rfl (lv_at hl 1 rfl) ?_
        refine lv_aload_n C.1 C.2.1 d_RA_fits_25 rfl (lv_at hl 0 rfl) ?_
        refine xget C hP hi rfl c_RA (k := 0) (v := .int (st 11 0 i)) (by decide) wg_133 rfl d_RA_fits_26 ?_
        refine lv_isub C.1 C.2.1 d_RA_fits_29 ?_
        refine lv_aload_n C.1 C.2.1 d_RA_fits_30 rfl (lv_at hl 0 rfl) ?_
        refine xget C hP hi rfl c_RA (k := 2) (v := .int (st 11 2 i)) (by decide) wg_135 rfl d_RA_fits_31 ?_
        refine lv_irem C.1 C.2.1 d_RA_fits_34 (ne0_lt1 h3) ?_
        refine lv_if_ne (tgt := 42) C.1 C.2.1 d_RA_fits_35 (by decide) (fun h4 => ?_) (fun h4 => ?_)
        · refine lv_iconst (v := 0) C.1 C.2.1 d_RA_fits_42 (by decide) ?_
          exact xrz C hlk hr bz_0 hP hS d_RA_fits_43 ⟨by rw [f_RA_fits, if_neg h1, if_neg h2, if_neg h3, if_neg h4], rfl⟩
        · refine lv_iconst (v := 1) C.1 C.2.1 d_RA_fits_38 (by decide) ?_
          refine lv_goto (tgt := 43) C.1 C.2.1 d_RA_fits_39 (by decide) ?_
          exact xrz C hlk hr bz_1 hP hS d_RA_fits_43 ⟨by rw [f_RA_fits, if_neg h1, if_neg h2, if_neg h3, if_pos h4], rfl⟩

def f_AL_describe (st : XS) (i : Nat) (a1 : Int32) (a2 : Int32) (a3 : Int32) : XS :=
  (xu (xu (xu (xu st 13 0 i 1) 13 1 i a1) 13 2 i a2) 13 3 i a3)
set_option maxRecDepth 100000 in
set_option maxHeartbeats 4000000 in
theorem fr_AL_describe {st : XS} {i : Nat} {a1 : Int32} {a2 : Int32} {a3 : Int32} {a' k' i' : Nat} (h : (a', k') ∉ ([(13, 0), (13, 1), (13, 2), (13, 3)] : List (Nat × Nat))) (h2 : a' ∉ ([] : List Nat)) : (f_AL_describe st i a1 a2 a3) a' k' i' = st a' k' i' := by
  unfold f_AL_describe
  repeat' split
  all_goals (try dsimp only)
  all_goals (repeat (first | with_reducible rfl | rw [xu_f (fun e => h (by rw [e]; decide))]))
theorem p_AL_describe {st : XS} {i : Nat} {a1 : Int32} {a2 : Int32} {a3 : Int32} (h : pok st) : pok (f_AL_describe st i a1 a2 a3) := pok_of h (fr_AL_describe (by decide) (by decide)) (fun _ => fr_AL_describe (by simp) (by decide))
set_option maxRecDepth 100000 in
set_option maxHeartbeats 4000000 in
theorem k_AL_describe (l : Launch) (D : va_G) (cA : Nat → ClassId) (b : Nat) (st : XS) (ji i : Nat) (hi : xo cw ji 13 i) (a1 : Int32) (a2 : Int32) (a3 : Int32) : xMv cw D cA b l y_AL_describe (Cond.code y_AL_describe b_AL_describe 4 none) { frames := 0, cells := 0, slots := 0, locals := 0 } st [.ref (b + ji), .int a1, .int a2, .int a3] (f_AL_describe st i a1 a2 a3) := by
  refine xMv_of rfl (by decide) (Nat.le_of_ble_eq_true rfl) ?_
  intro p e s m below meth c ls C hlk hr hml hl hP hS
  have hl : lv_has ls 4 [(0, .ref (b + ji)), (1, .int a1), (2, .int a2), (3, .int a3)] := hl
  refine lv_aload_n C.1 C.2.1 d_AL_describe_0 rfl (lv_at hl 0 rfl) ?_
  refine lv_iconst (v := 1) C.1 C.2.1 d_AL_describe_1 (by decide) ?_
  refine xputz cw_inj C hP hS hi rfl c_AL (k := 0) (x := 1) (by decide) wg_185 rfl bz_1 rfl rfl d_AL_describe_2 (fun H locs hP hS => ?_)
  refine lv_aload_n C.1 C.2.1 d_AL_describe_5 rfl (lv_at hl 0 rfl) ?_
  refine lv_iload_n C.1 C.2.1 d_AL_describe_6 rfl (lv_at hl 1 rfl) ?_
  refine xput cw_inj C hP hS hi rfl c_AL (k := 1) (x := a1) (by decide) wg_188 rfl rfl rfl rfl d_AL_describe_7 (fun H locs hP hS => ?_)
  refine lv_aload_n C.1 C.2.1 d_AL_describe_10 rfl (lv_at hl 0 rfl) ?_
  refine lv_iload_n C.1 C.2.1 d_AL_describe_11 rfl (lv_at hl 2 rfl) ?_
  refine xput cw_inj C hP hS hi rfl c_AL (k := 2) (x := a2) (by decide) wg_189 rfl rfl rfl rfl d_AL_describe_12 (fun H locs hP hS => ?_)
  refine lv_aload_n C.1 C.2.1 d_AL_describe_15 rfl (lv_at hl 0 rfl) ?_
  refine lv_iload_n C.1 C.2.1 d_AL_describe_16 rfl (lv_at hl 3 rfl) ?_
  refine xput cw_inj C hP hS hi rfl c_AL (k := 3) (x := a3) (by decide) wg_190 rfl rfl rfl rfl d_AL_describe_17 (fun H locs hP hS => ?_)
  exact xrv C hlk hr hP hS d_AL_describe_20 (by rw [f_AL_describe])

def f_AL_watch (st : XS) (i : Nat) (a1 : Int32) (a2 : Int32) : XS :=
  if (bz (st 13 0 i)) = 0 then (xu st 13 4 i 0)
  else if a1 ≤ (st 13 2 i) then (xu st 13 4 i 0)
  else if (bz (st 13 4 i)) = 0 then (xu (xu st 13 5 i a2) 13 4 i 1)
  else (xu st 13 4 i 1)
set_option maxRecDepth 100000 in
set_option maxHeartbeats 4000000 in
theorem fr_AL_watch {st : XS} {i : Nat} {a1 : Int32} {a2 : Int32} {a' k' i' : Nat} (h : (a', k') ∉ ([(13, 4), (13, 5)] : List (Nat × Nat))) (h2 : a' ∉ ([] : List Nat)) : (f_AL_watch st i a1 a2) a' k' i' = st a' k' i' := by
  unfold f_AL_watch
  repeat' split
  all_goals (try dsimp only)
  all_goals (repeat (first | with_reducible rfl | rw [xu_f (fun e => h (by rw [e]; decide))]))
theorem p_AL_watch {st : XS} {i : Nat} {a1 : Int32} {a2 : Int32} (h : pok st) : pok (f_AL_watch st i a1 a2) := pok_of h (fr_AL_watch (by decide) (by decide)) (fun _ => fr_AL_watch (by simp) (by decide))
set_option maxRecDepth 100000 in
set_option maxHeartbeats 4000000 in
theorem k_AL_watch (l : Launch) (D : va_G) (cA : Nat → ClassId) (b : Nat) (st : XS) (ji i : Nat) (hi : xo cw ji 13 i) (a1 : Int32) (a2 : Int32) : xMv cw D cA b l y_AL_watch (Cond.code y_AL_watch b_AL_watch 4 none) { frames := 0, cells := 0, slots := 0, locals := 0 } st [.ref (b + ji), .int a1, .int a2] (f_AL_watch st i a1 a2) := by
  refine xMv_of rfl (by decide) (Nat.le_of_ble_eq_true rfl) ?_
  intro p e s m below meth c ls C hlk hr hml hl hP hS
  have hl : lv_has ls 4 [(0, .ref (b + ji)), (1, .int a1), (2, .int a2)] := hl
  refine lv_aload_n C.1 C.2.1 d_AL_watch_0 rfl (lv_at hl 0 rfl) ?_
  refine xget C hP hi rfl c_AL (k := 0) (v := .int (bz (st 13 0 i))) (by decide) wg_185 rfl d_AL_watch_1 ?_
  refine lv_if_eq (tgt := 19) C.1 C.2.1 d_AL_watch_4 (by decide) (fun h1 => ?_) (fun h1 => ?_)
  · refine lv_iconst (v := 0) C.1 C.2.1 d_AL_watch_19 (by decide) ?_
    refine lv_istore_n C.1 C.2.1 d_AL_watch_20 rfl hl (by decide) rfl (fun ls hl => ?_)
    have hl : lv_has ls 4 [(3, .int 0), (0, .ref (b + ji)), (1, .int a1), (2, .int a2)] := hl
    refine lv_iload_n C.1 C.2.1 d_AL_watch_21 rfl (lv_at hl 0 rfl) ?_
    refine lv_if_eq (tgt := 37) C.1 C.2.1 d_AL_watch_22 (by decide) (fun _ => ?_) (fun h => absurd (by decide) h)
    refine lv_aload_n C.1 C.2.1 d_AL_watch_37 rfl (lv_at hl 1 rfl) ?_
    refine lv_iload_n C.1 C.2.1 d_AL_watch_38 rfl (lv_at hl 0 rfl) ?_
    refine xputz cw_inj C hP hS hi rfl c_AL (k := 4) (x := 0) (by decide) wg_191 rfl bz_0 rfl rfl d_AL_watch_39 (fun H locs hP hS => ?_)
    exact xrv C hlk hr hP hS d_AL_watch_42 (by rw [f_AL_watch, if_pos h1])
  · refine lv_iload_n C.1 C.2.1 d_AL_watch_7 rfl (lv_at hl 1 rfl) ?_
    refine lv_aload_n C.1 C.2.1 d_AL_watch_8 rfl (lv_at hl 0 rfl) ?_
    refine xget C hP hi rfl c_AL (k := 2) (v := .int (st 13 2 i)) (by decide) wg_189 rfl d_AL_watch_9 ?_
    refine lv_icmp_le (tgt := 19) C.1 C.2.1 d_AL_watch_12 (by decide) (fun h2 => ?_) (fun h2 => ?_)
    · refine lv_iconst (v := 0) C.1 C.2.1 d_AL_watch_19 (by decide) ?_
      refine lv_istore_n C.1 C.2.1 d_AL_watch_20 rfl hl (by decide) rfl (fun ls hl => ?_)
      have hl : lv_has ls 4 [(3, .int 0), (0, .ref (b + ji)), (1, .int a1), (2, .int a2)] := hl
      refine lv_iload_n C.1 C.2.1 d_AL_watch_21 rfl (lv_at hl 0 rfl) ?_
      refine lv_if_eq (tgt := 37) C.1 C.2.1 d_AL_watch_22 (by decide) (fun _ => ?_) (fun h => absurd (by decide) h)
      refine lv_aload_n C.1 C.2.1 d_AL_watch_37 rfl (lv_at hl 1 rfl) ?_
      refine lv_iload_n C.1 C.2.1 d_AL_watch_38 rfl (lv_at hl 0 rfl) ?_
      refine xputz cw_inj C hP hS hi rfl c_AL (k := 4) (x := 0) (by decide) wg_191 rfl bz_0 rfl rfl d_AL_watch_39 (fun H locs hP hS => ?_)
      exact xrv C hlk hr hP hS d_AL_watch_42 (by rw [f_AL_watch, if_neg h1, if_pos h2])
    · refine lv_iconst (v := 1) C.1 C.2.1 d_AL_watch_15 (by decide) ?_
      refine lv_goto (tgt := 20) C.1 C.2.1 d_AL_watch_16 (by decide) ?_
      refine lv_istore_n C.1 C.2.1 d_AL_watch_20 rfl hl (by decide) rfl (fun ls hl => ?_)
      have hl : lv_has ls 4 [(3, .int 1), (0, .ref (b + ji)), (1, .int a1), (2, .int a2)] := hl
      refine lv_iload_n C.1 C.2.1 d_AL_watch_21 rfl (lv_at hl 0 rfl) ?_
      refine lv_if_eq (tgt := 37) C.1 C.2.1 d_AL_watch_22 (by decide) (fun h => absurd h (by decide)) (fun _ => ?_)
      refine lv_aload_n C.1 C.2.1 d_AL_watch_25 rfl (lv_at hl 1 rfl) ?_
      refine xget C hP hi rfl c_AL (k := 4) (v := .int (bz (st 13 4 i))) (by decide) wg_191 rfl d_AL_watch_26 ?_
      refine lv_if_ne (tgt := 37) C.1 C.2.1 d_AL_watch_29 (by decide) (fun h3 => ?_) (fun h3 => ?_)
      · refine lv_aload_n C.1 C.2.1 d_AL_watch_37 rfl (lv_at hl 1 rfl) ?_
        refine lv_iload_n C.1 C.2.1 d_AL_watch_38 rfl (lv_at hl 0 rfl) ?_
        refine xputz cw_inj C hP hS hi rfl c_AL (k := 4) (x := 1) (by decide) wg_191 rfl bz_1 rfl rfl d_AL_watch_39 (fun H locs hP hS => ?_)
        exact xrv C hlk hr hP hS d_AL_watch_42 (by rw [f_AL_watch, if_neg h1, if_neg h2, if_neg h3])
      · refine lv_aload_n C.1 C.2.1 d_AL_watch_32 rfl (lv_at hl 1 rfl) ?_
        refine lv_iload_n C.1 C.2.1 d_AL_watch_33 rfl (lv_at hl 3 rfl) ?_
        refine xput cw_inj C hP hS hi rfl c_AL (k := 5) (x := a2) (by decide) wg_192 rfl rfl rfl rfl d_AL_watch_34 (fun H locs hP hS => ?_)
        refine lv_aload_n C.1 C.2.1 d_AL_watch_37 rfl (lv_at hl 1 rfl) ?_
        refine lv_iload_n C.1 C.2.1 d_AL_watch_38 rfl (lv_at hl 0 rfl) ?_
        refine xputz cw_inj C hP hS hi rfl c_AL (k := 4) (x := 1) (by decide) wg_191 rfl bz_1 rfl rfl d_AL_watch_39 (fun H locs hP hS => ?_)
        exact xrv C hlk hr hP hS d_AL_watch_42 (by rw [f_AL_watch, if_neg h1, if_neg h2, if_pos h3])

def f_AL_forget (st : XS) (i : Nat) : XS :=
  (xu (xu (xu (xu st 13 4 i 0) 13 6 i 0) 13 7 i 0) 13 8 i 0)
set_option maxRecDepth 100000 in
set_option maxHeartbeats 4000000 in
theorem fr_AL_forget {st : XS} {i : Nat} {a' k' i' : Nat} (h : (a', k') ∉ ([(13, 4), (13, 6), (13, 7), (13, 8)] : List (Nat × Nat))) (h2 : a' ∉ ([] : List Nat)) : (f_AL_forget st i) a' k' i' = st a' k' i' := by
  unfold f_AL_forget
  repeat' split
  all_goals (try dsimp only)
  all_goals (repeat (first | with_reducible rfl | rw [xu_f (fun e => h (by rw [e]; decide))]))
theorem p_AL_forget {st : XS} {i : Nat} (h : pok st) : pok (f_AL_forget st i) := pok_of h (fr_AL_forget (by decide) (by decide)) (fun _ => fr_AL_forget (by simp) (by decide))
set_option maxRecDepth 100000 in
set_option maxHeartbeats 4000000 in
theorem k_AL_forget (l : Launch) (D : va_G) (cA : Nat → ClassId) (b : Nat) (st : XS) (ji i : Nat) (hi : xo cw ji 13 i) : xMv cw D cA b l y_AL_forget (Cond.code y_AL_forget b_AL_forget 1 none) { frames := 0, cells := 0, slots := 0, locals := 0 } st [.ref (b + ji)] (f_AL_forget st i) := by
  refine xMv_of rfl (by decide) (Nat.le_of_ble_eq_true rfl) ?_
  intro p e s m below meth c ls C hlk hr hml hl hP hS
  have hl : lv_has ls 1 [(0, .ref (b + ji))] := hl
  refine lv_aload_n C.1 C.2.1 d_AL_forget_0 rfl (lv_at hl 0 rfl) ?_
  refine lv_iconst (v := 0) C.1 C.2.1 d_AL_forget_1 (by decide) ?_
  refine xputz cw_inj C hP hS hi rfl c_AL (k := 4) (x := 0) (by decide) wg_191 rfl bz_0 rfl rfl d_AL_forget_2 (fun H locs hP hS => ?_)
  refine lv_aload_n C.1 C.2.1 d_AL_forget_5 rfl (lv_at hl 0 rfl) ?_
  refine lv_iconst (v := 0) C.1 C.2.1 d_AL_forget_6 (by decide) ?_
  refine xput cw_inj C hP hS hi rfl c_AL (k := 6) (x := 0) (by decide) wg_193 rfl rfl rfl rfl d_AL_forget_7 (fun H locs hP hS => ?_)
  refine lv_aload_n C.1 C.2.1 d_AL_forget_10 rfl (lv_at hl 0 rfl) ?_
  refine lv_iconst (v := 0) C.1 C.2.1 d_AL_forget_11 (by decide) ?_
  refine xputz cw_inj C hP hS hi rfl c_AL (k := 7) (x := 0) (by decide) wg_195 rfl bz_0 rfl rfl d_AL_forget_12 (fun H locs hP hS => ?_)
  refine lv_aload_n C.1 C.2.1 d_AL_forget_15 rfl (lv_at hl 0 rfl) ?_
  refine lv_iconst (v := 0) C.1 C.2.1 d_AL_forget_16 (by decide) ?_
  refine xputz cw_inj C hP hS hi rfl c_AL (k := 8) (x := 0) (by decide) wg_197 rfl bz_0 rfl rfl d_AL_forget_17 (fun H locs hP hS => ?_)
  exact xrv C hlk hr hP hS d_AL_forget_20 (by rw [f_AL_forget])

def f_AL_settle (st : XS) (i : Nat) (a1 : Int32) : XS × Int32 :=
  if (bz (st 13 4 i)) = 0 then (if (bz (st 13 7 i)) = 0 then (st, 0)
    else if (st 13 1 i) = 1 then (if (bz (st 13 8 i)) = 0 then (st, 0)
      else ((xu (xu st 13 7 i 0) 13 8 i 0), 1))
    else ((xu (xu st 13 7 i 0) 13 8 i 0), 1))
  else if a1 < (st 13 6 i) then (if (bz (st 13 7 i)) = 0 then (st, 0)
    else if (st 13 1 i) = 1 then (if (bz (st 13 8 i)) = 0 then (st, 0)
      else ((xu (xu st 13 7 i 0) 13 8 i 0), 1))
    else ((xu (xu st 13 7 i 0) 13 8 i 0), 1))
  else if (bz (st 13 7 i)) = 0 then (if (st 13 3 i) ≤ (a1 - (if (st 13 5 i) < (st 13 6 i) then (st 13 6 i) else (st 13 5 i))) then ((xu (xu st 13 7 i 1) 13 9 i a1), 1)
    else (st, 0))
  else (st, 0)
set_option maxRecDepth 100000 in
set_option maxHeartbeats 4000000 in
theorem z_AL_settle {st : XS} {i : Nat} {a1 : Int32} : bz (f_AL_settle st i a1).2 = (f_AL_settle st i a1).2 := by
  unfold f_AL_settle
  repeat' split
  all_goals first | with_reducible exact bz_0 | with_reducible exact bz_1 | with_reducible exact bz_bz _
set_option maxRecDepth 100000 in
set_option maxHeartbeats 4000000 in
theorem fr_AL_settle {st : XS} {i : Nat} {a1 : Int32} {a' k' i' : Nat} (h : (a', k') ∉ ([(13, 7), (13, 8), (13, 9)] : List (Nat × Nat))) (h2 : a' ∉ ([] : List Nat)) : (f_AL_settle st i a1).1 a' k' i' = st a' k' i' := by
  unfold f_AL_settle
  repeat' split
  all_goals (try dsimp only)
  all_goals (repeat (first | with_reducible rfl | rw [xu_f (fun e => h (by rw [e]; decide))]))
theorem p_AL_settle {st : XS} {i : Nat} {a1 : Int32} (h : pok st) : pok (f_AL_settle st i a1).1 := pok_of h (fr_AL_settle (by decide) (by decide)) (fun _ => fr_AL_settle (by simp) (by decide))
set_option maxRecDepth 100000 in
set_option maxHeartbeats 4000000 in
theorem k_AL_settle (l : Launch) (D : va_G) (cA : Nat → ClassId) (b : Nat) (st : XS) (ji i : Nat) (hi : xo cw ji 13 i) (a1 : Int32) : xMi cw D cA b l y_AL_settle (Cond.code y_AL_settle b_AL_settle 3 (some .boolean)) { frames := 1, cells := 0, slots := 0, locals := 21 } st [.ref (b + ji), .int a1] (f_AL_settle st i a1).2 (f_AL_settle st i a1).1 := by
  refine xMi_of rfl (by decide) (Nat.le_of_ble_eq_true rfl) ?_
  intro p e s m below meth c ls C hlk hr hml hl hP hS
  have hl : lv_has ls 3 [(0, .ref (b + ji)), (1, .int a1)] := hl
  refine lv_aload_n C.1 C.2.1 d_AL_settle_0 rfl (lv_at hl 0 rfl) ?_
  refine xget C hP hi rfl c_AL (k := 4) (v := .int (bz (st 13 4 i))) (by decide) wg_191 rfl d_AL_settle_1 ?_
  refine lv_if_eq (tgt := 19) C.1 C.2.1 d_AL_settle_4 (by decide) (fun h1 => ?_) (fun h1 => ?_)
  · refine lv_iconst (v := 0) C.1 C.2.1 d_AL_settle_19 (by decide) ?_
    refine lv_istore_n C.1 C.2.1 d_AL_settle_20 rfl hl (by decide) rfl (fun ls hl => ?_)
    have hl : lv_has ls 3 [(2, .int 0), (0, .ref (b + ji)), (1, .int a1)] := hl
    refine lv_aload_n C.1 C.2.1 d_AL_settle_21 rfl (lv_at hl 1 rfl) ?_
    refine xget C hP hi rfl c_AL (k := 7) (v := .int (bz (st 13 7 i))) (by decide) wg_195 rfl d_AL_settle_22 ?_
    refine lv_if_eq (tgt := 61) C.1 C.2.1 d_AL_settle_25 (by decide) (fun h2 => ?_) (fun h2 => ?_)
    · refine lv_iload_n C.1 C.2.1 d_AL_settle_61 rfl (lv_at hl 0 rfl) ?_
      refine lv_if_eq (tgt := 85) C.1 C.2.1 d_AL_settle_62 (by decide) (fun _ => ?_) (fun h => absurd (by decide) h)
      refine lv_iconst (v := 0) C.1 C.2.1 d_AL_settle_85 (by decide) ?_
      exact xrz C hlk hr bz_0 hP hS d_AL_settle_86 ⟨by rw [f_AL_settle, if_pos h1, if_pos h2], by rw [f_AL_settle, if_pos h1, if_pos h2]⟩
    · refine lv_iload_n C.1 C.2.1 d_AL_settle_28 rfl (lv_at hl 0 rfl) ?_
      refine lv_if_ne (tgt := 47) C.1 C.2.1 d_AL_settle_29 (by decide) (fun h => absurd (by decide) h) (fun _ => ?_)
      refine lv_aload_n C.1 C.2.1 d_AL_settle_32 rfl (lv_at hl 1 rfl) ?_
      refine xget C hP hi rfl c_AL (k := 1) (v := .int (st 13 1 i)) (by decide) wg_188 rfl d_AL_settle_33 ?_
      refine lv_iconst (v := 1) C.1 C.2.1 d_AL_settle_36 (by decide) ?_
      refine lv_icmp_ne (tgt := 49) C.1 C.2.1 d_AL_settle_37 (by decide) (fun h3 => ?_) (fun h3 => ?_)
      · refine lv_aload_n C.1 C.2.1 d_AL_settle_49 rfl (lv_at hl 1 rfl) ?_
        refine lv_iconst (v := 0) C.1 C.2.1 d_AL_settle_50 (by decide) ?_
        refine xputz cw_inj C hP hS hi rfl c_AL (k := 7) (x := 0) (by decide) wg_195 rfl bz_0 rfl rfl d_AL_settle_51 (fun H locs hP hS => ?_)
        refine lv_aload_n C.1 C.2.1 d_AL_settle_54 rfl (lv_at hl 1 rfl) ?_
        refine lv_iconst (v := 0) C.1 C.2.1 d_AL_settle_55 (by decide) ?_
        refine xputz cw_inj C hP hS hi rfl c_AL (k := 8) (x := 0) (by decide) wg_197 rfl bz_0 rfl rfl d_AL_settle_56 (fun H locs hP hS => ?_)
        refine lv_iconst (v := 1) C.1 C.2.1 d_AL_settle_59 (by decide) ?_
        exact xrz C hlk hr bz_1 hP hS d_AL_settle_60 ⟨by rw [f_AL_settle, if_pos h1, if_neg h2, if_neg h3], by rw [f_AL_settle, if_pos h1, if_neg h2, if_neg h3]⟩
      · refine lv_aload_n C.1 C.2.1 d_AL_settle_40 rfl (lv_at hl 1 rfl) ?_
        refine xget C hP hi rfl c_AL (k := 8) (v := .int (bz (st 13 8 i))) (by decide) wg_197 rfl d_AL_settle_41 ?_
        refine lv_if_ne (tgt := 49) C.1 C.2.1 d_AL_settle_44 (by decide) (fun h4 => ?_) (fun h4 => ?_)
        · refine lv_aload_n C.1 C.2.1 d_AL_settle_49 rfl (lv_at hl 1 rfl) ?_
          refine lv_iconst (v := 0) C.1 C.2.1 d_AL_settle_50 (by decide) ?_
          refine xputz cw_inj C hP hS hi rfl c_AL (k := 7) (x := 0) (by decide) wg_195 rfl bz_0 rfl rfl d_AL_settle_51 (fun H locs hP hS => ?_)
          refine lv_aload_n C.1 C.2.1 d_AL_settle_54 rfl (lv_at hl 1 rfl) ?_
          refine lv_iconst (v := 0) C.1 C.2.1 d_AL_settle_55 (by decide) ?_
          refine xputz cw_inj C hP hS hi rfl c_AL (k := 8) (x := 0) (by decide) wg_197 rfl bz_0 rfl rfl d_AL_settle_56 (fun H locs hP hS => ?_)
          refine lv_iconst (v := 1) C.1 C.2.1 d_AL_settle_59 (by decide) ?_
          exact xrz C hlk hr bz_1 hP hS d_AL_settle_60 ⟨by rw [f_AL_settle, if_pos h1, if_neg h2, if_pos h3, if_neg h4], by rw [f_AL_settle, if_pos h1, if_neg h2, if_pos h3, if_neg h4]⟩
        · refine lv_iconst (v := 0) C.1 C.2.1 d_AL_settle_47 (by decide) ?_
          exact xrz C hlk hr bz_0 hP hS d_AL_settle_48 ⟨by rw [f_AL_settle, if_pos h1, if_neg h2, if_pos h3, if_pos h4], by rw [f_AL_settle, if_pos h1, if_neg h2, if_pos h3, if_pos h4]⟩
  · refine lv_iload_n C.1 C.2.1 d_AL_settle_7 rfl (lv_at hl 1 rfl) ?_
    refine lv_aload_n C.1 C.2.1 d_AL_settle_8 rfl (lv_at hl 0 rfl) ?_
    refine xget C hP hi rfl c_AL (k := 6) (v := .int (st 13 6 i)) (by decide) wg_193 rfl d_AL_settle_9 ?_
    refine lv_icmp_lt (tgt := 19) C.1 C.2.1 d_AL_settle_12 (by decide) (fun h5 => ?_) (fun h5 => ?_)
    · refine lv_iconst (v := 0) C.1 C.2.1 d_AL_settle_19 (by decide) ?_
      refine lv_istore_n C.1 C.2.1 d_AL_settle_20 rfl hl (by decide) rfl (fun ls hl => ?_)
      have hl : lv_has ls 3 [(2, .int 0), (0, .ref (b + ji)), (1, .int a1)] := hl
      refine lv_aload_n C.1 C.2.1 d_AL_settle_21 rfl (lv_at hl 1 rfl) ?_
      refine xget C hP hi rfl c_AL (k := 7) (v := .int (bz (st 13 7 i))) (by decide) wg_195 rfl d_AL_settle_22 ?_
      refine lv_if_eq (tgt := 61) C.1 C.2.1 d_AL_settle_25 (by decide) (fun h6 => ?_) (fun h6 => ?_)
      · refine lv_iload_n C.1 C.2.1 d_AL_settle_61 rfl (lv_at hl 0 rfl) ?_
        refine lv_if_eq (tgt := 85) C.1 C.2.1 d_AL_settle_62 (by decide) (fun _ => ?_) (fun h => absurd (by decide) h)
        refine lv_iconst (v := 0) C.1 C.2.1 d_AL_settle_85 (by decide) ?_
        exact xrz C hlk hr bz_0 hP hS d_AL_settle_86 ⟨by rw [f_AL_settle, if_neg h1, if_pos h5, if_pos h6], by rw [f_AL_settle, if_neg h1, if_pos h5, if_pos h6]⟩
      · refine lv_iload_n C.1 C.2.1 d_AL_settle_28 rfl (lv_at hl 0 rfl) ?_
        refine lv_if_ne (tgt := 47) C.1 C.2.1 d_AL_settle_29 (by decide) (fun h => absurd (by decide) h) (fun _ => ?_)
        refine lv_aload_n C.1 C.2.1 d_AL_settle_32 rfl (lv_at hl 1 rfl) ?_
        refine xget C hP hi rfl c_AL (k := 1) (v := .int (st 13 1 i)) (by decide) wg_188 rfl d_AL_settle_33 ?_
        refine lv_iconst (v := 1) C.1 C.2.1 d_AL_settle_36 (by decide) ?_
        refine lv_icmp_ne (tgt := 49) C.1 C.2.1 d_AL_settle_37 (by decide) (fun h7 => ?_) (fun h7 => ?_)
        · refine lv_aload_n C.1 C.2.1 d_AL_settle_49 rfl (lv_at hl 1 rfl) ?_
          refine lv_iconst (v := 0) C.1 C.2.1 d_AL_settle_50 (by decide) ?_
          refine xputz cw_inj C hP hS hi rfl c_AL (k := 7) (x := 0) (by decide) wg_195 rfl bz_0 rfl rfl d_AL_settle_51 (fun H locs hP hS => ?_)
          refine lv_aload_n C.1 C.2.1 d_AL_settle_54 rfl (lv_at hl 1 rfl) ?_
          refine lv_iconst (v := 0) C.1 C.2.1 d_AL_settle_55 (by decide) ?_
          refine xputz cw_inj C hP hS hi rfl c_AL (k := 8) (x := 0) (by decide) wg_197 rfl bz_0 rfl rfl d_AL_settle_56 (fun H locs hP hS => ?_)
          refine lv_iconst (v := 1) C.1 C.2.1 d_AL_settle_59 (by decide) ?_
          exact xrz C hlk hr bz_1 hP hS d_AL_settle_60 ⟨by rw [f_AL_settle, if_neg h1, if_pos h5, if_neg h6, if_neg h7], by rw [f_AL_settle, if_neg h1, if_pos h5, if_neg h6, if_neg h7]⟩
        · refine lv_aload_n C.1 C.2.1 d_AL_settle_40 rfl (lv_at hl 1 rfl) ?_
          refine xget C hP hi rfl c_AL (k := 8) (v := .int (bz (st 13 8 i))) (by decide) wg_197 rfl d_AL_settle_41 ?_
          refine lv_if_ne (tgt := 49) C.1 C.2.1 d_AL_settle_44 (by decide) (fun h8 => ?_) (fun h8 => ?_)
          · refine lv_aload_n C.1 C.2.1 d_AL_settle_49 rfl (lv_at hl 1 rfl) ?_
            refine lv_iconst (v := 0) C.1 C.2.1 d_AL_settle_50 (by decide) ?_
            refine xputz cw_inj C hP hS hi rfl c_AL (k := 7) (x := 0) (by decide) wg_195 rfl bz_0 rfl rfl d_AL_settle_51 (fun H locs hP hS => ?_)
            refine lv_aload_n C.1 C.2.1 d_AL_settle_54 rfl (lv_at hl 1 rfl) ?_
            refine lv_iconst (v := 0) C.1 C.2.1 d_AL_settle_55 (by decide) ?_
            refine xputz cw_inj C hP hS hi rfl c_AL (k := 8) (x := 0) (by decide) wg_197 rfl bz_0 rfl rfl d_AL_settle_56 (fun H locs hP hS => ?_)
            refine lv_iconst (v := 1) C.1 C.2.1 d_AL_settle_59 (by decide) ?_
            exact xrz C hlk hr bz_1 hP hS d_AL_settle_60 ⟨by rw [f_AL_settle, if_neg h1, if_pos h5, if_neg h6, if_pos h7, if_neg h8], by rw [f_AL_settle, if_neg h1, if_pos h5, if_neg h6, if_pos h7, if_neg h8]⟩
          · refine lv_iconst (v := 0) C.1 C.2.1 d_AL_settle_47 (by decide) ?_
            exact xrz C hlk hr bz_0 hP hS d_AL_settle_48 ⟨by rw [f_AL_settle, if_neg h1, if_pos h5, if_neg h6, if_pos h7, if_pos h8], by rw [f_AL_settle, if_neg h1, if_pos h5, if_neg h6, if_pos h7, if_pos h8]⟩
    · refine lv_iconst (v := 1) C.1 C.2.1 d_AL_settle_15 (by decide) ?_
      refine lv_goto (tgt := 20) C.1 C.2.1 d_AL_settle_16 (by decide) ?_
      refine lv_istore_n C.1 C.2.1 d_AL_settle_20 rfl hl (by decide) rfl (fun ls hl => ?_)
      have hl : lv_has ls 3 [(2, .int 1), (0, .ref (b + ji)), (1, .int a1)] := hl
      refine lv_aload_n C.1 C.2.1 d_AL_settle_21 rfl (lv_at hl 1 rfl) ?_
      refine xget C hP hi rfl c_AL (k := 7) (v := .int (bz (st 13 7 i))) (by decide) wg_195 rfl d_AL_settle_22 ?_
      refine lv_if_eq (tgt := 61) C.1 C.2.1 d_AL_settle_25 (by decide) (fun h9 => ?_) (fun h9 => ?_)
      · refine lv_iload_n C.1 C.2.1 d_AL_settle_61 rfl (lv_at hl 0 rfl) ?_
        refine lv_if_eq (tgt := 85) C.1 C.2.1 d_AL_settle_62 (by decide) (fun h => absurd h (by decide)) (fun _ => ?_)
        refine lv_iload_n C.1 C.2.1 d_AL_settle_65 rfl (lv_at hl 2 rfl) ?_
        refine lv_aload_n C.1 C.2.1 d_AL_settle_66 rfl (lv_at hl 1 rfl) ?_
        refine xget C hP hi rfl c_AL (k := 5) (v := .int (st 13 5 i)) (by decide) wg_192 rfl d_AL_settle_67 ?_
        refine lv_aload_n C.1 C.2.1 d_AL_settle_70 rfl (lv_at hl 1 rfl) ?_
        refine xget C hP hi rfl c_AL (k := 6) (v := .int (st 13 6 i)) (by decide) wg_193 rfl d_AL_settle_71 ?_
        refine va_mmax C.1 C.2.1 (hml.trans hl.1.symm) C.2.2.1 (C.2.2.2.1 _ wg_515) (C.2.2.2.1 _ wg_516) (C.2.2.2.1 _ wg_18) (C.2.2.2.1 _ wg_517) (Nat.le_of_ble_eq_true rfl) (Nat.le_of_ble_eq_true rfl) (Nat.zero_le _) (Nat.zero_le _) d_AL_settle_74 ?_
        refine lv_isub C.1 C.2.1 d_AL_settle_77 ?_
        refine lv_aload_n C.1 C.2.1 d_AL_settle_78 rfl (lv_at hl 1 rfl) ?_
        refine xget C hP hi rfl c_AL (k := 3) (v := .int (st 13 3 i)) (by decide) wg_190 rfl d_AL_settle_79 ?_
        refine lv_icmp_ge (tgt := 87) C.1 C.2.1 d_AL_settle_82 (by decide) (fun h10 => ?_) (fun h10 => ?_)
        · refine lv_aload_n C.1 C.2.1 d_AL_settle_87 rfl (lv_at hl 1 rfl) ?_
          refine lv_iconst (v := 1) C.1 C.2.1 d_AL_settle_88 (by decide) ?_
          refine xputz cw_inj C hP hS hi rfl c_AL (k := 7) (x := 1) (by decide) wg_195 rfl bz_1 rfl rfl d_AL_settle_89 (fun H locs hP hS => ?_)
          refine lv_aload_n C.1 C.2.1 d_AL_settle_92 rfl (lv_at hl 1 rfl) ?_
          refine lv_iload_n C.1 C.2.1 d_AL_settle_93 rfl (lv_at hl 2 rfl) ?_
          refine xput cw_inj C hP hS hi rfl c_AL (k := 9) (x := a1) (by decide) wg_198 rfl rfl rfl rfl d_AL_settle_94 (fun H locs hP hS => ?_)
          refine lv_iconst (v := 1) C.1 C.2.1 d_AL_settle_97 (by decide) ?_
          exact xrz C hlk hr bz_1 hP hS d_AL_settle_98 ⟨by rw [f_AL_settle, if_neg h1, if_neg h5, if_pos h9, if_pos h10], by rw [f_AL_settle, if_neg h1, if_neg h5, if_pos h9, if_pos h10]⟩
        · refine lv_iconst (v := 0) C.1 C.2.1 d_AL_settle_85 (by decide) ?_
          exact xrz C hlk hr bz_0 hP hS d_AL_settle_86 ⟨by rw [f_AL_settle, if_neg h1, if_neg h5, if_pos h9, if_neg h10], by rw [f_AL_settle, if_neg h1, if_neg h5, if_pos h9, if_neg h10]⟩
      · refine lv_iload_n C.1 C.2.1 d_AL_settle_28 rfl (lv_at hl 0 rfl) ?_
        refine lv_if_ne (tgt := 47) C.1 C.2.1 d_AL_settle_29 (by decide) (fun _ => ?_) (fun h => absurd h (by decide))
        refine lv_iconst (v := 0) C.1 C.2.1 d_AL_settle_47 (by decide) ?_
        exact xrz C hlk hr bz_0 hP hS d_AL_settle_48 ⟨by rw [f_AL_settle, if_neg h1, if_neg h5, if_neg h9], by rw [f_AL_settle, if_neg h1, if_neg h5, if_neg h9]⟩

def f_AL_hush (st : XS) (i : Nat) : XS :=
  (xu st 13 8 i (bz (st 13 7 i)))
set_option maxRecDepth 100000 in
set_option maxHeartbeats 4000000 in
theorem fr_AL_hush {st : XS} {i : Nat} {a' k' i' : Nat} (h : (a', k') ∉ ([(13, 8)] : List (Nat × Nat))) (h2 : a' ∉ ([] : List Nat)) : (f_AL_hush st i) a' k' i' = st a' k' i' := by
  unfold f_AL_hush
  repeat' split
  all_goals (try dsimp only)
  all_goals (repeat (first | with_reducible rfl | rw [xu_f (fun e => h (by rw [e]; decide))]))
theorem p_AL_hush {st : XS} {i : Nat} (h : pok st) : pok (f_AL_hush st i) := pok_of h (fr_AL_hush (by decide) (by decide)) (fun _ => fr_AL_hush (by simp) (by decide))
set_option maxRecDepth 100000 in
set_option maxHeartbeats 4000000 in
theorem k_AL_hush (l : Launch) (D : va_G) (cA : Nat → ClassId) (b : Nat) (st : XS) (ji i : Nat) (hi : xo cw ji 13 i) : xMv cw D cA b l y_AL_hush (Cond.code y_AL_hush b_AL_hush 1 none) { frames := 0, cells := 0, slots := 0, locals := 0 } st [.ref (b + ji)] (f_AL_hush st i) := by
  refine xMv_of rfl (by decide) (Nat.le_of_ble_eq_true rfl) ?_
  intro p e s m below meth c ls C hlk hr hml hl hP hS
  have hl : lv_has ls 1 [(0, .ref (b + ji))] := hl
  refine lv_aload_n C.1 C.2.1 d_AL_hush_0 rfl (lv_at hl 0 rfl) ?_
  refine lv_aload_n C.1 C.2.1 d_AL_hush_1 rfl (lv_at hl 0 rfl) ?_
  refine xget C hP hi rfl c_AL (k := 7) (v := .int (bz (st 13 7 i))) (by decide) wg_195 rfl d_AL_hush_2 ?_
  refine xputz cw_inj C hP hS hi rfl c_AL (k := 8) (x := (bz (st 13 7 i))) (by decide) wg_197 rfl (bz_bz _) rfl rfl d_AL_hush_5 (fun H locs hP hS => ?_)
  exact xrv C hlk hr hP hS d_AL_hush_8 (by rw [f_AL_hush])

def f_AL_isLoud (st : XS) (i : Nat) : Int32 :=
  if (bz (st 13 7 i)) = 0 then 0
  else if (bz (st 13 8 i)) = 0 then 1
  else 0
set_option maxRecDepth 100000 in
set_option maxHeartbeats 4000000 in
theorem z_AL_isLoud {st : XS} {i : Nat} : bz (f_AL_isLoud st i) = (f_AL_isLoud st i) := by
  unfold f_AL_isLoud
  repeat' split
  all_goals first | with_reducible exact bz_0 | with_reducible exact bz_1 | with_reducible exact bz_bz _
set_option maxRecDepth 100000 in
set_option maxHeartbeats 4000000 in
theorem k_AL_isLoud (l : Launch) (D : va_G) (cA : Nat → ClassId) (b : Nat) (st : XS) (ji i : Nat) (hi : xo cw ji 13 i) : xMi cw D cA b l y_AL_isLoud (Cond.code y_AL_isLoud b_AL_isLoud 1 (some .boolean)) { frames := 0, cells := 0, slots := 0, locals := 0 } st [.ref (b + ji)] (f_AL_isLoud st i) st := by
  refine xMi_of rfl (by decide) (Nat.le_of_ble_eq_true rfl) ?_
  intro p e s m below meth c ls C hlk hr hml hl hP hS
  have hl : lv_has ls 1 [(0, .ref (b + ji))] := hl
  refine lv_aload_n C.1 C.2.1 d_AL_isLoud_0 rfl (lv_at hl 0 rfl) ?_
  refine xget C hP hi rfl c_AL (k := 7) (v := .int (bz (st 13 7 i))) (by decide) wg_195 rfl d_AL_isLoud_1 ?_
  refine lv_if_eq (tgt := 18) C.1 C.2.1 d_AL_isLoud_4 (by decide) (fun h1 => ?_) (fun h1 => ?_)
  · refine lv_iconst (v := 0) C.1 C.2.1 d_AL_isLoud_18 (by decide) ?_
    exact xrz C hlk hr bz_0 hP hS d_AL_isLoud_19 ⟨by rw [f_AL_isLoud, if_pos h1], rfl⟩
  · refine lv_aload_n C.1 C.2.1 d_AL_isLoud_7 rfl (lv_at hl 0 rfl) ?_
    refine xget C hP hi rfl c_AL (k := 8) (v := .int (bz (st 13 8 i))) (by decide) wg_197 rfl d_AL_isLoud_8 ?_
    refine lv_if_ne (tgt := 18) C.1 C.2.1 d_AL_isLoud_11 (by decide) (fun h2 => ?_) (fun h2 => ?_)
    · refine lv_iconst (v := 0) C.1 C.2.1 d_AL_isLoud_18 (by decide) ?_
      exact xrz C hlk hr bz_0 hP hS d_AL_isLoud_19 ⟨by rw [f_AL_isLoud, if_neg h1, if_neg h2], rfl⟩
    · refine lv_iconst (v := 1) C.1 C.2.1 d_AL_isLoud_14 (by decide) ?_
      refine lv_goto (tgt := 19) C.1 C.2.1 d_AL_isLoud_15 (by decide) ?_
      exact xrz C hlk hr bz_1 hP hS d_AL_isLoud_19 ⟨by rw [f_AL_isLoud, if_neg h1, if_pos h2], rfl⟩

def f_AL_standing (st : XS) (i : Nat) : Int32 :=
  if (bz (st 13 0 i)) = 0 then 0
  else if (bz (st 13 7 i)) = 0 then 1
  else if (bz (st 13 8 i)) = 0 then 2
  else 3
set_option maxRecDepth 100000 in
set_option maxHeartbeats 4000000 in
theorem k_AL_standing (l : Launch) (D : va_G) (cA : Nat → ClassId) (b : Nat) (st : XS) (ji i : Nat) (hi : xo cw ji 13 i) : xMi cw D cA b l y_AL_standing (Cond.code y_AL_standing b_AL_standing 1 (some .int)) { frames := 0, cells := 0, slots := 0, locals := 0 } st [.ref (b + ji)] (f_AL_standing st i) st := by
  refine xMi_of rfl (by decide) (Nat.le_of_ble_eq_true rfl) ?_
  intro p e s m below meth c ls C hlk hr hml hl hP hS
  have hl : lv_has ls 1 [(0, .ref (b + ji))] := hl
  refine lv_aload_n C.1 C.2.1 d_AL_standing_0 rfl (lv_at hl 0 rfl) ?_
  refine xget C hP hi rfl c_AL (k := 0) (v := .int (bz (st 13 0 i))) (by decide) wg_185 rfl d_AL_standing_1 ?_
  refine lv_if_ne (tgt := 9) C.1 C.2.1 d_AL_standing_4 (by decide) (fun h1 => ?_) (fun h1 => ?_)
  · refine lv_aload_n C.1 C.2.1 d_AL_standing_9 rfl (lv_at hl 0 rfl) ?_
    refine xget C hP hi rfl c_AL (k := 7) (v := .int (bz (st 13 7 i))) (by decide) wg_195 rfl d_AL_standing_10 ?_
    refine lv_if_ne (tgt := 18) C.1 C.2.1 d_AL_standing_13 (by decide) (fun h2 => ?_) (fun h2 => ?_)
    · refine lv_aload_n C.1 C.2.1 d_AL_standing_18 rfl (lv_at hl 0 rfl) ?_
      refine xget C hP hi rfl c_AL (k := 8) (v := .int (bz (st 13 8 i))) (by decide) wg_197 rfl d_AL_standing_19 ?_
      refine lv_if_eq (tgt := 29) C.1 C.2.1 d_AL_standing_22 (by decide) (fun h3 => ?_) (fun h3 => ?_)
      · refine lv_iconst (v := 2) C.1 C.2.1 d_AL_standing_29 (by decide) ?_
        exact xri C hlk hr hP hS d_AL_standing_30 ⟨by rw [f_AL_standing, if_neg h1, if_neg h2, if_pos h3], rfl⟩
      · refine lv_iconst (v := 3) C.1 C.2.1 d_AL_standing_25 (by decide) ?_
        refine lv_goto (tgt := 30) C.1 C.2.1 d_AL_standing_26 (by decide) ?_
        exact xri C hlk hr hP hS d_AL_standing_30 ⟨by rw [f_AL_standing, if_neg h1, if_neg h2, if_neg h3], rfl⟩
    · refine lv_iconst (v := 1) C.1 C.2.1 d_AL_standing_16 (by decide) ?_
      exact xri C hlk hr hP hS d_AL_standing_17 ⟨by rw [f_AL_standing, if_neg h1, if_pos h2], rfl⟩
  · refine lv_iconst (v := 0) C.1 C.2.1 d_AL_standing_7 (by decide) ?_
    exact xri C hlk hr hP hS d_AL_standing_8 ⟨by rw [f_AL_standing, if_pos h1], rfl⟩

def f_AL_levelAt (st : XS) (i : Nat) (a1 : Int32) : Int32 :=
  if (f_AL_isLoud st i) = 0 then (-1)
  else if (2000 * (st 13 1 i)) ≤ (a1 - (st 13 9 i)) then (if (2 * (2000 * (st 13 1 i))) ≤ (a1 - (st 13 9 i)) then (if (4 * (2000 * (st 13 1 i))) ≤ (a1 - (st 13 9 i)) then 3
      else 2)
    else 1)
  else 0
set_option maxRecDepth 100000 in
set_option maxHeartbeats 4000000 in
theorem k_AL_levelAt (l : Launch) (D : va_G) (cA : Nat → ClassId) (b : Nat) (st : XS) (ji i : Nat) (hi : xo cw ji 13 i) (a1 : Int32) : xMi cw D cA b l y_AL_levelAt (Cond.code y_AL_levelAt b_AL_levelAt 4 (some .int)) { frames := 1, cells := 0, slots := 0, locals := 20 } st [.ref (b + ji), .int a1] (f_AL_levelAt st i a1) st := by
  refine xMi_of rfl (by decide) (Nat.le_of_ble_eq_true rfl) ?_
  intro p e s m below meth c ls C hlk hr hml hl hP hS
  have hl : lv_has ls 4 [(0, .ref (b + ji)), (1, .int a1)] := hl
  refine lv_aload_n C.1 C.2.1 d_AL_levelAt_0 rfl (lv_at hl 0 rfl) ?_
  refine xcVi (rest := []) C hml hl.1 (k_AL_isLoud l D cA b st ji i hi) q_AL_isLoud rfl rfl wg_850 wg_836 ws_46 ⟨Nat.le_of_ble_eq_true rfl, Nat.le_of_ble_eq_true rfl⟩ hP hS hi rfl c_AL rfl (Nat.le_of_ble_eq_true rfl) d_AL_levelAt_1 rfl (fun H locs hP hS => ?_)
  refine lv_if_ne (tgt := 9) C.1 C.2.1 d_AL_levelAt_4 (by decide) (fun h1 => ?_) (fun h1 => ?_)
  · refine lv_sipush (v := 2000) C.1 C.2.1 d_AL_levelAt_9 (by decide) ?_
    refine lv_aload_n C.1 C.2.1 d_AL_levelAt_12 rfl (lv_at hl 0 rfl) ?_
    refine xget C hP hi rfl c_AL (k := 1) (v := .int (st 13 1 i)) (by decide) wg_188 rfl d_AL_levelAt_13 ?_
    refine lv_imul C.1 C.2.1 d_AL_levelAt_16 ?_
    refine lv_istore_n C.1 C.2.1 d_AL_levelAt_17 rfl hl (by decide) rfl (fun ls hl => ?_)
    have hl : lv_has ls 4 [(2, .int (2000 * (st 13 1 i))), (0, .ref (b + ji)), (1, .int a1)] := hl
    refine lv_iload_n C.1 C.2.1 d_AL_levelAt_18 rfl (lv_at hl 2 rfl) ?_
    refine lv_aload_n C.1 C.2.1 d_AL_levelAt_19 rfl (lv_at hl 1 rfl) ?_
    refine xget C hP hi rfl c_AL (k := 9) (v := .int (st 13 9 i)) (by decide) wg_198 rfl d_AL_levelAt_20 ?_
    refine lv_isub C.1 C.2.1 d_AL_levelAt_23 ?_
    refine lv_istore_n C.1 C.2.1 d_AL_levelAt_24 rfl hl (by decide) rfl (fun ls hl => ?_)
    have hl : lv_has ls 4 [(3, .int (a1 - (st 13 9 i))), (2, .int (2000 * (st 13 1 i))), (0, .ref (b + ji)), (1, .int a1)] := hl
    refine lv_iload_n C.1 C.2.1 d_AL_levelAt_25 rfl (lv_at hl 0 rfl) ?_
    refine lv_iload_n C.1 C.2.1 d_AL_levelAt_26 rfl (lv_at hl 1 rfl) ?_
    refine lv_icmp_ge (tgt := 32) C.1 C.2.1 d_AL_levelAt_27 (by decide) (fun h2 => ?_) (fun h2 => ?_)
    · refine lv_iload_n C.1 C.2.1 d_AL_levelAt_32 rfl (lv_at hl 0 rfl) ?_
      refine lv_iconst (v := 2) C.1 C.2.1 d_AL_levelAt_33 (by decide) ?_
      refine lv_iload_n C.1 C.2.1 d_AL_levelAt_34 rfl (lv_at hl 1 rfl) ?_
      refine lv_imul C.1 C.2.1 d_AL_levelAt_35 ?_
      refine lv_icmp_ge (tgt := 41) C.1 C.2.1 d_AL_levelAt_36 (by decide) (fun h3 => ?_) (fun h3 => ?_)
      · refine lv_iload_n C.1 C.2.1 d_AL_levelAt_41 rfl (lv_at hl 0 rfl) ?_
        refine lv_iconst (v := 4) C.1 C.2.1 d_AL_levelAt_42 (by decide) ?_
        refine lv_iload_n C.1 C.2.1 d_AL_levelAt_43 rfl (lv_at hl 1 rfl) ?_
        refine lv_imul C.1 C.2.1 d_AL_levelAt_44 ?_
        refine lv_icmp_ge (tgt := 52) C.1 C.2.1 d_AL_levelAt_45 (by decide) (fun h4 => ?_) (fun h4 => ?_)
        · refine lv_iconst (v := 3) C.1 C.2.1 d_AL_levelAt_52 (by decide) ?_
          exact xri C hlk hr hP hS d_AL_levelAt_53 ⟨by rw [f_AL_levelAt, if_neg h1, if_pos h2, if_pos h3, if_pos h4], rfl⟩
        · refine lv_iconst (v := 2) C.1 C.2.1 d_AL_levelAt_48 (by decide) ?_
          refine lv_goto (tgt := 53) C.1 C.2.1 d_AL_levelAt_49 (by decide) ?_
          exact xri C hlk hr hP hS d_AL_levelAt_53 ⟨by rw [f_AL_levelAt, if_neg h1, if_pos h2, if_pos h3, if_neg h4], rfl⟩
      · refine lv_iconst (v := 1) C.1 C.2.1 d_AL_levelAt_39 (by decide) ?_
        exact xri C hlk hr hP hS d_AL_levelAt_40 ⟨by rw [f_AL_levelAt, if_neg h1, if_pos h2, if_neg h3], rfl⟩
    · refine lv_iconst (v := 0) C.1 C.2.1 d_AL_levelAt_30 (by decide) ?_
      exact xri C hlk hr hP hS d_AL_levelAt_31 ⟨by rw [f_AL_levelAt, if_neg h1, if_neg h2], rfl⟩
  · refine lv_iconst (v := (-1)) C.1 C.2.1 d_AL_levelAt_7 (by decide) ?_
    exact xri C hlk hr hP hS d_AL_levelAt_8 ⟨by rw [f_AL_levelAt, if_pos h1], rfl⟩

def f_KN_learn (st : XS) (i : Nat) (a1 : Int32) (a2 : Int32) : XS :=
  (xu (xu (xu st 14 0 i a1) 14 1 i a2) 14 2 i 0)
set_option maxRecDepth 100000 in
set_option maxHeartbeats 4000000 in
theorem fr_KN_learn {st : XS} {i : Nat} {a1 : Int32} {a2 : Int32} {a' k' i' : Nat} (h : (a', k') ∉ ([(14, 0), (14, 1), (14, 2)] : List (Nat × Nat))) (h2 : a' ∉ ([] : List Nat)) : (f_KN_learn st i a1 a2) a' k' i' = st a' k' i' := by
  unfold f_KN_learn
  repeat' split
  all_goals (try dsimp only)
  all_goals (repeat (first | with_reducible rfl | rw [xu_f (fun e => h (by rw [e]; decide))]))
theorem p_KN_learn {st : XS} {i : Nat} {a1 : Int32} {a2 : Int32} (h : pok st) : pok (f_KN_learn st i a1 a2) := pok_of h (fr_KN_learn (by decide) (by decide)) (fun _ => fr_KN_learn (by simp) (by decide))
set_option maxRecDepth 100000 in
set_option maxHeartbeats 4000000 in
theorem k_KN_learn (l : Launch) (D : va_G) (cA : Nat → ClassId) (b : Nat) (st : XS) (ji i : Nat) (hi : xo cw ji 14 i) (a1 : Int32) (a2 : Int32) (hz2 : bz a2 = a2) : xMv cw D cA b l y_KN_learn (Cond.code y_KN_learn b_KN_learn 3 none) { frames := 0, cells := 0, slots := 0, locals := 0 } st [.ref (b + ji), .int a1, .int a2] (f_KN_learn st i a1 a2) := by
  refine xMv_of rfl (by decide) (Nat.le_of_ble_eq_true rfl) ?_
  intro p e s m below meth c ls C hlk hr hml hl hP hS
  have hl : lv_has ls 3 [(0, .ref (b + ji)), (1, .int a1), (2, .int a2)] := hl
  refine lv_aload_n C.1 C.2.1 d_KN_learn_0 rfl (lv_at hl 0 rfl) ?_
  refine lv_iload_n C.1 C.2.1 d_KN_learn_1 rfl (lv_at hl 1 rfl) ?_
  refine xput cw_inj C hP hS hi rfl c_KN (k := 0) (x := a1) (by decide) wg_226 rfl rfl rfl rfl d_KN_learn_2 (fun H locs hP hS => ?_)
  refine lv_aload_n C.1 C.2.1 d_KN_learn_5 rfl (lv_at hl 0 rfl) ?_
  refine lv_iload_n C.1 C.2.1 d_KN_learn_6 rfl (lv_at hl 2 rfl) ?_
  refine xputz cw_inj C hP hS hi rfl c_KN (k := 1) (x := a2) (by decide) wg_228 rfl hz2 rfl rfl d_KN_learn_7 (fun H locs hP hS => ?_)
  refine lv_aload_n C.1 C.2.1 d_KN_learn_10 rfl (lv_at hl 0 rfl) ?_
  refine lv_iconst (v := 0) C.1 C.2.1 d_KN_learn_11 (by decide) ?_
  refine xputz cw_inj C hP hS hi rfl c_KN (k := 2) (x := 0) (by decide) wg_230 rfl bz_0 rfl rfl d_KN_learn_12 (fun H locs hP hS => ?_)
  exact xrv C hlk hr hP hS d_KN_learn_15 (by rw [f_KN_learn])

def f_KN_sounds (st : XS) (i : Nat) : Int32 :=
  if (bz (st 14 1 i)) = 0 then 0
  else if (bz (st 14 2 i)) = 0 then 1
  else 0
set_option maxRecDepth 100000 in
set_option maxHeartbeats 4000000 in
theorem z_KN_sounds {st : XS} {i : Nat} : bz (f_KN_sounds st i) = (f_KN_sounds st i) := by
  unfold f_KN_sounds
  repeat' split
  all_goals first | with_reducible exact bz_0 | with_reducible exact bz_1 | with_reducible exact bz_bz _
set_option maxRecDepth 100000 in
set_option maxHeartbeats 4000000 in
theorem k_KN_sounds (l : Launch) (D : va_G) (cA : Nat → ClassId) (b : Nat) (st : XS) (ji i : Nat) (hi : xo cw ji 14 i) : xMi cw D cA b l y_KN_sounds (Cond.code y_KN_sounds b_KN_sounds 1 (some .boolean)) { frames := 0, cells := 0, slots := 0, locals := 0 } st [.ref (b + ji)] (f_KN_sounds st i) st := by
  refine xMi_of rfl (by decide) (Nat.le_of_ble_eq_true rfl) ?_
  intro p e s m below meth c ls C hlk hr hml hl hP hS
  have hl : lv_has ls 1 [(0, .ref (b + ji))] := hl
  refine lv_aload_n C.1 C.2.1 d_KN_sounds_0 rfl (lv_at hl 0 rfl) ?_
  refine xget C hP hi rfl c_KN (k := 1) (v := .int (bz (st 14 1 i))) (by decide) wg_228 rfl d_KN_sounds_1 ?_
  refine lv_if_eq (tgt := 18) C.1 C.2.1 d_KN_sounds_4 (by decide) (fun h1 => ?_) (fun h1 => ?_)
  · refine lv_iconst (v := 0) C.1 C.2.1 d_KN_sounds_18 (by decide) ?_
    exact xrz C hlk hr bz_0 hP hS d_KN_sounds_19 ⟨by rw [f_KN_sounds, if_pos h1], rfl⟩
  · refine lv_aload_n C.1 C.2.1 d_KN_sounds_7 rfl (lv_at hl 0 rfl) ?_
    refine xget C hP hi rfl c_KN (k := 2) (v := .int (bz (st 14 2 i))) (by decide) wg_230 rfl d_KN_sounds_8 ?_
    refine lv_if_ne (tgt := 18) C.1 C.2.1 d_KN_sounds_11 (by decide) (fun h2 => ?_) (fun h2 => ?_)
    · refine lv_iconst (v := 0) C.1 C.2.1 d_KN_sounds_18 (by decide) ?_
      exact xrz C hlk hr bz_0 hP hS d_KN_sounds_19 ⟨by rw [f_KN_sounds, if_neg h1, if_neg h2], rfl⟩
    · refine lv_iconst (v := 1) C.1 C.2.1 d_KN_sounds_14 (by decide) ?_
      refine lv_goto (tgt := 19) C.1 C.2.1 d_KN_sounds_15 (by decide) ?_
      exact xrz C hlk hr bz_1 hP hS d_KN_sounds_19 ⟨by rw [f_KN_sounds, if_neg h1, if_pos h2], rfl⟩

def f_KN_standing (st : XS) (i : Nat) : Int32 :=
  if (st 14 0 i) = (-1) then 0
  else if (bz (st 14 1 i)) = 0 then 1
  else if (bz (st 14 2 i)) = 0 then 2
  else 3
set_option maxRecDepth 100000 in
set_option maxHeartbeats 4000000 in
theorem k_KN_standing (l : Launch) (D : va_G) (cA : Nat → ClassId) (b : Nat) (st : XS) (ji i : Nat) (hi : xo cw ji 14 i) : xMi cw D cA b l y_KN_standing (Cond.code y_KN_standing b_KN_standing 1 (some .int)) { frames := 0, cells := 0, slots := 0, locals := 0 } st [.ref (b + ji)] (f_KN_standing st i) st := by
  refine xMi_of rfl (by decide) (Nat.le_of_ble_eq_true rfl) ?_
  intro p e s m below meth c ls C hlk hr hml hl hP hS
  have hl : lv_has ls 1 [(0, .ref (b + ji))] := hl
  refine lv_aload_n C.1 C.2.1 d_KN_standing_0 rfl (lv_at hl 0 rfl) ?_
  refine xget C hP hi rfl c_KN (k := 0) (v := .int (st 14 0 i)) (by decide) wg_226 rfl d_KN_standing_1 ?_
  refine lv_iconst (v := (-1)) C.1 C.2.1 d_KN_standing_4 (by decide) ?_
  refine lv_icmp_ne (tgt := 10) C.1 C.2.1 d_KN_standing_5 (by decide) (fun h1 => ?_) (fun h1 => ?_)
  · refine lv_aload_n C.1 C.2.1 d_KN_standing_10 rfl (lv_at hl 0 rfl) ?_
    refine xget C hP hi rfl c_KN (k := 1) (v := .int (bz (st 14 1 i))) (by decide) wg_228 rfl d_KN_standing_11 ?_
    refine lv_if_ne (tgt := 19) C.1 C.2.1 d_KN_standing_14 (by decide) (fun h2 => ?_) (fun h2 => ?_)
    · refine lv_aload_n C.1 C.2.1 d_KN_standing_19 rfl (lv_at hl 0 rfl) ?_
      refine xget C hP hi rfl c_KN (k := 2) (v := .int (bz (st 14 2 i))) (by decide) wg_230 rfl d_KN_standing_20 ?_
      refine lv_if_eq (tgt := 30) C.1 C.2.1 d_KN_standing_23 (by decide) (fun h3 => ?_) (fun h3 => ?_)
      · refine lv_iconst (v := 2) C.1 C.2.1 d_KN_standing_30 (by decide) ?_
        exact xri C hlk hr hP hS d_KN_standing_31 ⟨by rw [f_KN_standing, if_neg h1, if_neg h2, if_pos h3], rfl⟩
      · refine lv_iconst (v := 3) C.1 C.2.1 d_KN_standing_26 (by decide) ?_
        refine lv_goto (tgt := 31) C.1 C.2.1 d_KN_standing_27 (by decide) ?_
        exact xri C hlk hr hP hS d_KN_standing_31 ⟨by rw [f_KN_standing, if_neg h1, if_neg h2, if_neg h3], rfl⟩
    · refine lv_iconst (v := 1) C.1 C.2.1 d_KN_standing_17 (by decide) ?_
      exact xri C hlk hr hP hS d_KN_standing_18 ⟨by rw [f_KN_standing, if_neg h1, if_pos h2], rfl⟩
  · refine lv_iconst (v := 0) C.1 C.2.1 d_KN_standing_8 (by decide) ?_
    exact xri C hlk hr hP hS d_KN_standing_9 ⟨by rw [f_KN_standing, if_pos h1], rfl⟩

def f_ME_copy (st : XS) (i : Nat) (o : Nat) : XS :=
  (xu (xu (xu (xu (xu (xu (xu (xu st 7 0 i (st 7 0 o)) 7 1 i (st 7 1 o)) 7 2 i (st 7 2 o)) 7 3 i (st 7 3 o)) 7 4 i (st 7 4 o)) 7 5 i (st 7 5 o)) 7 6 i (st 7 6 o)) 7 7 i (st 7 7 o))
set_option maxRecDepth 100000 in
set_option maxHeartbeats 4000000 in
theorem fr_ME_copy {st : XS} {i : Nat} {o : Nat} {a' k' i' : Nat} (h : (a', k') ∉ ([(7, 0), (7, 1), (7, 2), (7, 3), (7, 4), (7, 5), (7, 6), (7, 7)] : List (Nat × Nat))) (h2 : a' ∉ ([] : List Nat)) : (f_ME_copy st i o) a' k' i' = st a' k' i' := by
  unfold f_ME_copy
  repeat' split
  all_goals (try dsimp only)
  all_goals (repeat (first | with_reducible rfl | rw [xu_f (fun e => h (by rw [e]; decide))]))
theorem p_ME_copy {st : XS} {i : Nat} {o : Nat} (h : pok st) : pok (f_ME_copy st i o) := pok_of h (fr_ME_copy (by decide) (by decide)) (fun _ => fr_ME_copy (by simp) (by decide))
set_option maxRecDepth 100000 in
set_option maxHeartbeats 4000000 in
theorem k_ME_copy (l : Launch) (D : va_G) (cA : Nat → ClassId) (b : Nat) (st : XS) (ji i : Nat) (hi : xo cw ji 7 i) (jo o : Nat) (ho : xo cw jo 7 o) : xMv cw D cA b l y_ME_copy (Cond.code y_ME_copy b_ME_copy 2 none) { frames := 0, cells := 0, slots := 0, locals := 0 } st [.ref (b + ji), .ref (b + jo)] (f_ME_copy st i o) := by
  refine xMv_of rfl (by decide) (Nat.le_of_ble_eq_true rfl) ?_
  intro p e s m below meth c ls C hlk hr hml hl hP hS
  have hl : lv_has ls 2 [(0, .ref (b + ji)), (1, .ref (b + jo))] := hl
  refine lv_aload_n C.1 C.2.1 d_ME_copy_0 rfl (lv_at hl 0 rfl) ?_
  refine lv_aload_n C.1 C.2.1 d_ME_copy_1 rfl (lv_at hl 1 rfl) ?_
  refine xget C hP ho rfl c_ME (k := 0) (v := .int (st 7 0 o)) (by decide) wg_48 rfl d_ME_copy_2 ?_
  refine xput cw_inj C hP hS hi rfl c_ME (k := 0) (x := (st 7 0 o)) (by decide) wg_48 rfl rfl rfl rfl d_ME_copy_5 (fun H locs hP hS => ?_)
  refine lv_aload_n C.1 C.2.1 d_ME_copy_8 rfl (lv_at hl 0 rfl) ?_
  refine lv_aload_n C.1 C.2.1 d_ME_copy_9 rfl (lv_at hl 1 rfl) ?_
  refine xget C hP ho rfl c_ME (k := 1) (v := .int (st 7 1 o)) (by decide) wg_52 (congrArg Value.int (xu_f (by decide))) d_ME_copy_10 ?_
  refine xput cw_inj C hP hS hi rfl c_ME (k := 1) (x := (st 7 1 o)) (by decide) wg_52 rfl rfl rfl rfl d_ME_copy_13 (fun H locs hP hS => ?_)
  refine lv_aload_n C.1 C.2.1 d_ME_copy_16 rfl (lv_at hl 0 rfl) ?_
  refine lv_aload_n C.1 C.2.1 d_ME_copy_17 rfl (lv_at hl 1 rfl) ?_
  refine xget C hP ho rfl c_ME (k := 2) (v := .int (st 7 2 o)) (by decide) wg_55 (congrArg Value.int (Eq.trans (xu_f (by decide)) (xu_f (by decide)))) d_ME_copy_18 ?_
  refine xput cw_inj C hP hS hi rfl c_ME (k := 2) (x := (st 7 2 o)) (by decide) wg_55 rfl rfl rfl rfl d_ME_copy_21 (fun H locs hP hS => ?_)
  refine lv_aload_n C.1 C.2.1 d_ME_copy_24 rfl (lv_at hl 0 rfl) ?_
  refine lv_aload_n C.1 C.2.1 d_ME_copy_25 rfl (lv_at hl 1 rfl) ?_
  refine xget C hP ho rfl c_ME (k := 3) (v := .int (st 7 3 o)) (by decide) wg_59 (congrArg Value.int (Eq.trans (xu_f (by decide)) (Eq.trans (xu_f (by decide)) (xu_f (by decide))))) d_ME_copy_26 ?_
  refine xput cw_inj C hP hS hi rfl c_ME (k := 3) (x := (st 7 3 o)) (by decide) wg_59 rfl rfl rfl rfl d_ME_copy_29 (fun H locs hP hS => ?_)
  refine lv_aload_n C.1 C.2.1 d_ME_copy_32 rfl (lv_at hl 0 rfl) ?_
  refine lv_aload_n C.1 C.2.1 d_ME_copy_33 rfl (lv_at hl 1 rfl) ?_
  refine xget C hP ho rfl c_ME (k := 4) (v := .int (st 7 4 o)) (by decide) wg_63 (congrArg Value.int (Eq.trans (xu_f (by decide)) (Eq.trans (xu_f (by decide)) (Eq.trans (xu_f (by decide)) (xu_f (by decide)))))) d_ME_copy_34 ?_
  refine xput cw_inj C hP hS hi rfl c_ME (k := 4) (x := (st 7 4 o)) (by decide) wg_63 rfl rfl rfl rfl d_ME_copy_37 (fun H locs hP hS => ?_)
  refine lv_aload_n C.1 C.2.1 d_ME_copy_40 rfl (lv_at hl 0 rfl) ?_
  refine lv_aload_n C.1 C.2.1 d_ME_copy_41 rfl (lv_at hl 1 rfl) ?_
  refine xget C hP ho rfl c_ME (k := 5) (v := .int (st 7 5 o)) (by decide) wg_67 (congrArg Value.int (Eq.trans (xu_f (by decide)) (Eq.trans (xu_f (by decide)) (Eq.trans (xu_f (by decide)) (Eq.trans (xu_f (by decide)) (xu_f (by decide))))))) d_ME_copy_42 ?_
  refine xput cw_inj C hP hS hi rfl c_ME (k := 5) (x := (st 7 5 o)) (by decide) wg_67 rfl rfl rfl rfl d_ME_copy_45 (fun H locs hP hS => ?_)
  refine lv_aload_n C.1 C.2.1 d_ME_copy_48 rfl (lv_at hl 0 rfl) ?_
  refine lv_aload_n C.1 C.2.1 d_ME_copy_49 rfl (lv_at hl 1 rfl) ?_
  refine xget C hP ho rfl c_ME (k := 6) (v := .int (st 7 6 o)) (by decide) wg_71 (congrArg Value.int (Eq.trans (xu_f (by decide)) (Eq.trans (xu_f (by decide)) (Eq.trans (xu_f (by decide)) (Eq.trans (xu_f (by decide)) (Eq.trans (xu_f (by decide)) (xu_f (by decide)))))))) d_ME_copy_50 ?_
  refine xput cw_inj C hP hS hi rfl c_ME (k := 6) (x := (st 7 6 o)) (by decide) wg_71 rfl rfl rfl rfl d_ME_copy_53 (fun H locs hP hS => ?_)
  refine lv_aload_n C.1 C.2.1 d_ME_copy_56 rfl (lv_at hl 0 rfl) ?_
  refine lv_aload_n C.1 C.2.1 d_ME_copy_57 rfl (lv_at hl 1 rfl) ?_
  refine xget C hP ho rfl c_ME (k := 7) (v := .int (st 7 7 o)) (by decide) wg_74 (congrArg Value.int (Eq.trans (xu_f (by decide)) (Eq.trans (xu_f (by decide)) (Eq.trans (xu_f (by decide)) (Eq.trans (xu_f (by decide)) (Eq.trans (xu_f (by decide)) (Eq.trans (xu_f (by decide)) (xu_f (by decide))))))))) d_ME_copy_58 ?_
  refine xput cw_inj C hP hS hi rfl c_ME (k := 7) (x := (st 7 7 o)) (by decide) wg_74 rfl rfl rfl rfl d_ME_copy_61 (fun H locs hP hS => ?_)
  exact xrv C hlk hr hP hS d_ME_copy_64 (by rw [f_ME_copy])

def f_ME_fact (st : XS) (i : Nat) (a1 : Int32) : Int32 :=
  if a1 = 0 then (st 7 1 i)
  else if a1 = 1 then (st 7 2 i)
  else if a1 = 2 then (st 7 3 i)
  else if a1 = 3 then (st 7 4 i)
  else (st 7 5 i)
set_option maxRecDepth 100000 in
set_option maxHeartbeats 4000000 in
theorem k_ME_fact (l : Launch) (D : va_G) (cA : Nat → ClassId) (b : Nat) (st : XS) (ji i : Nat) (hi : xo cw ji 7 i) (a1 : Int32) : xMi cw D cA b l y_ME_fact (Cond.code y_ME_fact b_ME_fact 2 (some .int)) { frames := 0, cells := 0, slots := 0, locals := 0 } st [.ref (b + ji), .int a1] (f_ME_fact st i a1) st := by
  refine xMi_of rfl (by decide) (Nat.le_of_ble_eq_true rfl) ?_
  intro p e s m below meth c ls C hlk hr hml hl hP hS
  have hl : lv_has ls 2 [(0, .ref (b + ji)), (1, .int a1)] := hl
  refine lv_iload_n C.1 C.2.1 d_ME_fact_0 rfl (lv_at hl 1 rfl) ?_
  by_cases h1 : a1 = 0
  · refine lv_tableIn (tgt := 32) (off := 31) C.1 C.2.1 d_ME_fact_1 (by rw [h1]; decide) (by rw [h1]; decide) (by rw [h1]; rfl) (by decide) ?_
    refine lv_aload_n C.1 C.2.1 d_ME_fact_32 rfl (lv_at hl 0 rfl) ?_
    refine xget C hP hi rfl c_ME (k := 1) (v := .int (st 7 1 i)) (by decide) wg_52 rfl d_ME_fact_33 ?_
    exact xri C hlk hr hP hS d_ME_fact_36 ⟨by rw [f_ME_fact, if_pos h1], rfl⟩
  by_cases h2 : a1 = 1
  · refine lv_tableIn (tgt := 37) (off := 36) C.1 C.2.1 d_ME_fact_1 (by rw [h2]; decide) (by rw [h2]; decide) (by rw [h2]; rfl) (by decide) ?_
    refine lv_aload_n C.1 C.2.1 d_ME_fact_37 rfl (lv_at hl 0 rfl) ?_
    refine xget C hP hi rfl c_ME (k := 2) (v := .int (st 7 2 i)) (by decide) wg_55 rfl d_ME_fact_38 ?_
    exact xri C hlk hr hP hS d_ME_fact_41 ⟨by rw [f_ME_fact, if_neg h1, if_pos h2], rfl⟩
  by_cases h3 : a1 = 2
  · refine lv_tableIn (tgt := 42) (off := 41) C.1 C.2.1 d_ME_fact_1 (by rw [h3]; decide) (by rw [h3]; decide) (by rw [h3]; rfl) (by decide) ?_
    refine lv_aload_n C.1 C.2.1 d_ME_fact_42 rfl (lv_at hl 0 rfl) ?_
    refine xget C hP hi rfl c_ME (k := 3) (v := .int (st 7 3 i)) (by decide) wg_59 rfl d_ME_fact_43 ?_
    exact xri C hlk hr hP hS d_ME_fact_46 ⟨by rw [f_ME_fact, if_neg h1, if_neg h2, if_pos h3], rfl⟩
  by_cases h4 : a1 = 3
  · refine lv_tableIn (tgt := 47) (off := 46) C.1 C.2.1 d_ME_fact_1 (by rw [h4]; decide) (by rw [h4]; decide) (by rw [h4]; rfl) (by decide) ?_
    refine lv_aload_n C.1 C.2.1 d_ME_fact_47 rfl (lv_at hl 0 rfl) ?_
    refine xget C hP hi rfl c_ME (k := 4) (v := .int (st 7 4 i)) (by decide) wg_63 rfl d_ME_fact_48 ?_
    exact xri C hlk hr hP hS d_ME_fact_51 ⟨by rw [f_ME_fact, if_neg h1, if_neg h2, if_neg h3, if_pos h4], rfl⟩
  refine lv_tableOut (tgt := 52) C.1 C.2.1 d_ME_fact_1 (by have eh1 := lv_neT h1 (a := 0) (by decide); have eh2 := lv_neT h2 (a := 1) (by decide); have eh3 := lv_neT h3 (a := 2) (by decide); have eh4 := lv_neT h4 (a := 3) (by decide); omega) (by decide) ?_
  refine lv_aload_n C.1 C.2.1 d_ME_fact_52 rfl (lv_at hl 0 rfl) ?_
  refine xget C hP hi rfl c_ME (k := 5) (v := .int (st 7 5 i)) (by decide) wg_67 rfl d_ME_fact_53 ?_
  exact xri C hlk hr hP hS d_ME_fact_56 ⟨by rw [f_ME_fact, if_neg h1, if_neg h2, if_neg h3, if_neg h4], rfl⟩

def f_OR_write (st : XS) (i : Nat) (a1 : Int32) (a2 : Int32) (a3 : Int32) : XS :=
  (xu (xu (xu st 16 0 i a1) 16 1 i a2) 16 2 i a3)
set_option maxRecDepth 100000 in
set_option maxHeartbeats 4000000 in
theorem fr_OR_write {st : XS} {i : Nat} {a1 : Int32} {a2 : Int32} {a3 : Int32} {a' k' i' : Nat} (h : (a', k') ∉ ([(16, 0), (16, 1), (16, 2)] : List (Nat × Nat))) (h2 : a' ∉ ([] : List Nat)) : (f_OR_write st i a1 a2 a3) a' k' i' = st a' k' i' := by
  unfold f_OR_write
  repeat' split
  all_goals (try dsimp only)
  all_goals (repeat (first | with_reducible rfl | rw [xu_f (fun e => h (by rw [e]; decide))]))
theorem p_OR_write {st : XS} {i : Nat} {a1 : Int32} {a2 : Int32} {a3 : Int32} (h : pok st) : pok (f_OR_write st i a1 a2 a3) := pok_of h (fr_OR_write (by decide) (by decide)) (fun _ => fr_OR_write (by simp) (by decide))
set_option maxRecDepth 100000 in
set_option maxHeartbeats 4000000 in
theorem k_OR_write (l : Launch) (D : va_G) (cA : Nat → ClassId) (b : Nat) (st : XS) (ji i : Nat) (hi : xo cw ji 16 i) (a1 : Int32) (a2 : Int32) (a3 : Int32) : xMv cw D cA b l y_OR_write (Cond.code y_OR_write b_OR_write 4 none) { frames := 0, cells := 0, slots := 0, locals := 0 } st [.ref (b + ji), .int a1, .int a2, .int a3] (f_OR_write st i a1 a2 a3) := by
  refine xMv_of rfl (by decide) (Nat.le_of_ble_eq_true rfl) ?_
  intro p e s m below meth c ls C hlk hr hml hl hP hS
  have hl : lv_has ls 4 [(0, .ref (b + ji)), (1, .int a1), (2, .int a2), (3, .int a3)] := hl
  refine lv_aload_n C.1 C.2.1 d_OR_write_0 rfl (lv_at hl 0 rfl) ?_
  refine lv_iload_n C.1 C.2.1 d_OR_write_1 rfl (lv_at hl 1 rfl) ?_
  refine xput cw_inj C hP hS hi rfl c_OR (k := 0) (x := a1) (by decide) wg_358 rfl rfl rfl rfl d_OR_write_2 (fun H locs hP hS => ?_)
  refine lv_aload_n C.1 C.2.1 d_OR_write_5 rfl (lv_at hl 0 rfl) ?_
  refine lv_iload_n C.1 C.2.1 d_OR_write_6 rfl (lv_at hl 2 rfl) ?_
  refine xput cw_inj C hP hS hi rfl c_OR (k := 1) (x := a2) (by decide) wg_360 rfl rfl rfl rfl d_OR_write_7 (fun H locs hP hS => ?_)
  refine lv_aload_n C.1 C.2.1 d_OR_write_10 rfl (lv_at hl 0 rfl) ?_
  refine lv_iload_n C.1 C.2.1 d_OR_write_11 rfl (lv_at hl 3 rfl) ?_
  refine xput cw_inj C hP hS hi rfl c_OR (k := 2) (x := a3) (by decide) wg_362 rfl rfl rfl rfl d_OR_write_12 (fun H locs hP hS => ?_)
  exact xrv C hlk hr hP hS d_OR_write_15 (by rw [f_OR_write])

def f_DI_attach (st : XS) (i : Nat) (a1 : Int32) (a2 : Int32) (a3 : Int32) (a4 : Int32) : XS :=
  (xu (xu (xu (xu st 15 0 i a1) 15 1 i a2) 15 2 i a3) 15 3 i a4)
set_option maxRecDepth 100000 in
set_option maxHeartbeats 4000000 in
theorem fr_DI_attach {st : XS} {i : Nat} {a1 : Int32} {a2 : Int32} {a3 : Int32} {a4 : Int32} {a' k' i' : Nat} (h : (a', k') ∉ ([(15, 0), (15, 1), (15, 2), (15, 3)] : List (Nat × Nat))) (h2 : a' ∉ ([] : List Nat)) : (f_DI_attach st i a1 a2 a3 a4) a' k' i' = st a' k' i' := by
  unfold f_DI_attach
  repeat' split
  all_goals (try dsimp only)
  all_goals (repeat (first | with_reducible rfl | rw [xu_f (fun e => h (by rw [e]; decide))]))
theorem p_DI_attach {st : XS} {i : Nat} {a1 : Int32} {a2 : Int32} {a3 : Int32} {a4 : Int32} (h : pok st) : pok (f_DI_attach st i a1 a2 a3 a4) := pok_of h (fr_DI_attach (by decide) (by decide)) (fun _ => fr_DI_attach (by simp) (by decide))
set_option maxRecDepth 100000 in
set_option maxHeartbeats 4000000 in
theorem k_DI_attach (l : Launch) (D : va_G) (cA : Nat → ClassId) (b : Nat) (st : XS) (ji i : Nat) (hi : xo cw ji 15 i) (a1 : Int32) (a2 : Int32) (a3 : Int32) (a4 : Int32) : xMv cw D cA b l y_DI_attach (Cond.code y_DI_attach b_DI_attach 5 none) { frames := 0, cells := 0, slots := 0, locals := 0 } st [.ref (b + ji), .int a1, .int a2, .int a3, .int a4] (f_DI_attach st i a1 a2 a3 a4) := by
  refine xMv_of rfl (by decide) (Nat.le_of_ble_eq_true rfl) ?_
  intro p e s m below meth c ls C hlk hr hml hl hP hS
  have hl : lv_has ls 5 [(0, .ref (b + ji)), (1, .int a1), (2, .int a2), (3, .int a3), (4, .int a4)] := hl
  refine lv_aload_n C.1 C.2.1 d_DI_attach_0 rfl (lv_at hl 0 rfl) ?_
  refine lv_iload_n C.1 C.2.1 d_DI_attach_1 rfl (lv_at hl 1 rfl) ?_
  refine xput cw_inj C hP hS hi rfl c_DI (k := 0) (x := a1) (by decide) wg_323 rfl rfl rfl rfl d_DI_attach_2 (fun H locs hP hS => ?_)
  refine lv_aload_n C.1 C.2.1 d_DI_attach_5 rfl (lv_at hl 0 rfl) ?_
  refine lv_iload_n C.1 C.2.1 d_DI_attach_6 rfl (lv_at hl 2 rfl) ?_
  refine xput cw_inj C hP hS hi rfl c_DI (k := 1) (x := a2) (by decide) wg_325 rfl rfl rfl rfl d_DI_attach_7 (fun H locs hP hS => ?_)
  refine lv_aload_n C.1 C.2.1 d_DI_attach_10 rfl (lv_at hl 0 rfl) ?_
  refine lv_iload_n C.1 C.2.1 d_DI_attach_11 rfl (lv_at hl 3 rfl) ?_
  refine xput cw_inj C hP hS hi rfl c_DI (k := 2) (x := a3) (by decide) wg_327 rfl rfl rfl rfl d_DI_attach_12 (fun H locs hP hS => ?_)
  refine lv_aload_n C.1 C.2.1 d_DI_attach_15 rfl (lv_at hl 0 rfl) ?_
  refine lv_iload C.1 C.2.1 d_DI_attach_16 (lv_at hl 4 rfl) ?_
  refine xput cw_inj C hP hS hi rfl c_DI (k := 3) (x := a4) (by decide) wg_328 rfl rfl rfl rfl d_DI_attach_18 (fun H locs hP hS => ?_)
  exact xrv C hlk hr hP hS d_DI_attach_21 (by rw [f_DI_attach])

def f_DI_hear (st : XS) (i : Nat) (o : Nat) (a2 : Int32) : XS :=
  if (st 7 2 o) = (st 15 0 i) then (if (st 7 3 o) = (st 15 1 i) then (if (st 7 4 o) = (st 15 2 i) then (if (st 7 7 o) = (st 15 3 i) then (if (st 7 0 o) ≤ (st 15 4 i) then st
          else (xu (xu (xu (xu st 15 4 i (st 7 0 o)) 15 5 i (st 7 5 o)) 15 6 i (st 7 6 o)) 15 7 i a2))
        else st)
      else st)
    else st)
  else st
set_option maxRecDepth 100000 in
set_option maxHeartbeats 4000000 in
theorem fr_DI_hear {st : XS} {i : Nat} {o : Nat} {a2 : Int32} {a' k' i' : Nat} (h : (a', k') ∉ ([(15, 4), (15, 5), (15, 6), (15, 7)] : List (Nat × Nat))) (h2 : a' ∉ ([] : List Nat)) : (f_DI_hear st i o a2) a' k' i' = st a' k' i' := by
  unfold f_DI_hear
  repeat' split
  all_goals (try dsimp only)
  all_goals (repeat (first | with_reducible rfl | rw [xu_f (fun e => h (by rw [e]; decide))]))
theorem p_DI_hear {st : XS} {i : Nat} {o : Nat} {a2 : Int32} (h : pok st) : pok (f_DI_hear st i o a2) := pok_of h (fr_DI_hear (by decide) (by decide)) (fun _ => fr_DI_hear (by simp) (by decide))
set_option maxRecDepth 100000 in
set_option maxHeartbeats 4000000 in
theorem k_DI_hear (l : Launch) (D : va_G) (cA : Nat → ClassId) (b : Nat) (st : XS) (ji i : Nat) (hi : xo cw ji 15 i) (jo o : Nat) (ho : xo cw jo 7 o) (a2 : Int32) : xMv cw D cA b l y_DI_hear (Cond.code y_DI_hear b_DI_hear 4 none) { frames := 0, cells := 0, slots := 0, locals := 0 } st [.ref (b + ji), .ref (b + jo), .int a2] (f_DI_hear st i o a2) := by
  refine xMv_of rfl (by decide) (Nat.le_of_ble_eq_true rfl) ?_
  intro p e s m below meth c ls C hlk hr hml hl hP hS
  have hl : lv_has ls 4 [(0, .ref (b + ji)), (1, .ref (b + jo)), (2, .int a2)] := hl
  refine lv_aload_n C.1 C.2.1 d_DI_hear_0 rfl (lv_at hl 1 rfl) ?_
  refine xgetN C hP ho rfl c_ME (k := 2) (v := .int (st 7 2 o)) (by decide) wn_57 rfl d_DI_hear_1 ?_
  refine lv_aload_n C.1 C.2.1 d_DI_hear_4 rfl (lv_at hl 0 rfl) ?_
  refine xget C hP hi rfl c_DI (k := 0) (v := .int (st 15 0 i)) (by decide) wg_323 rfl d_DI_hear_5 ?_
  refine lv_icmp_ne (tgt := 48) C.1 C.2.1 d_DI_hear_8 (by decide) (fun h1 => ?_) (fun h1 => ?_)
  · refine lv_iconst (v := 0) C.1 C.2.1 d_DI_hear_48 (by decide) ?_
    refine lv_istore_n C.1 C.2.1 d_DI_hear_49 rfl hl (by decide) rfl (fun ls hl => ?_)
    have hl : lv_has ls 4 [(3, .int 0), (0, .ref (b + ji)), (1, .ref (b + jo)), (2, .int a2)] := hl
    refine lv_iload_n C.1 C.2.1 d_DI_hear_50 rfl (lv_at hl 0 rfl) ?_
    refine lv_if_eq (tgt := 94) C.1 C.2.1 d_DI_hear_51 (by decide) (fun _ => ?_) (fun h => absurd (by decide) h)
    exact xrv C hlk hr hP hS d_DI_hear_94 (by rw [f_DI_hear, if_neg h1])
  · refine lv_aload_n C.1 C.2.1 d_DI_hear_11 rfl (lv_at hl 1 rfl) ?_
    refine xgetN C hP ho rfl c_ME (k := 3) (v := .int (st 7 3 o)) (by decide) wn_61 rfl d_DI_hear_12 ?_
    refine lv_aload_n C.1 C.2.1 d_DI_hear_15 rfl (lv_at hl 0 rfl) ?_
    refine xget C hP hi rfl c_DI (k := 1) (v := .int (st 15 1 i)) (by decide) wg_325 rfl d_DI_hear_16 ?_
    refine lv_icmp_ne (tgt := 48) C.1 C.2.1 d_DI_hear_19 (by decide) (fun h2 => ?_) (fun h2 => ?_)
    · refine lv_iconst (v := 0) C.1 C.2.1 d_DI_hear_48 (by decide) ?_
      refine lv_istore_n C.1 C.2.1 d_DI_hear_49 rfl hl (by decide) rfl (fun ls hl => ?_)
      have hl : lv_has ls 4 [(3, .int 0), (0, .ref (b + ji)), (1, .ref (b + jo)), (2, .int a2)] := hl
      refine lv_iload_n C.1 C.2.1 d_DI_hear_50 rfl (lv_at hl 0 rfl) ?_
      refine lv_if_eq (tgt := 94) C.1 C.2.1 d_DI_hear_51 (by decide) (fun _ => ?_) (fun h => absurd (by decide) h)
      exact xrv C hlk hr hP hS d_DI_hear_94 (by rw [f_DI_hear, if_pos h1, if_neg h2])
    · refine lv_aload_n C.1 C.2.1 d_DI_hear_22 rfl (lv_at hl 1 rfl) ?_
      refine xgetN C hP ho rfl c_ME (k := 4) (v := .int (st 7 4 o)) (by decide) wn_65 rfl d_DI_hear_23 ?_
      refine lv_aload_n C.1 C.2.1 d_DI_hear_26 rfl (lv_at hl 0 rfl) ?_
      refine xget C hP hi rfl c_DI (k := 2) (v := .int (st 15 2 i)) (by decide) wg_327 rfl d_DI_hear_27 ?_
      refine lv_icmp_ne (tgt := 48) C.1 C.2.1 d_DI_hear_30 (by decide) (fun h3 => ?_) (fun h3 => ?_)
      · refine lv_iconst (v := 0) C.1 C.2.1 d_DI_hear_48 (by decide) ?_
        refine lv_istore_n C.1 C.2.1 d_DI_hear_49 rfl hl (by decide) rfl (fun ls hl => ?_)
        have hl : lv_has ls 4 [(3, .int 0), (0, .ref (b + ji)), (1, .ref (b + jo)), (2, .int a2)] := hl
        refine lv_iload_n C.1 C.2.1 d_DI_hear_50 rfl (lv_at hl 0 rfl) ?_
        refine lv_if_eq (tgt := 94) C.1 C.2.1 d_DI_hear_51 (by decide) (fun _ => ?_) (fun h => absurd (by decide) h)
        exact xrv C hlk hr hP hS d_DI_hear_94 (by rw [f_DI_hear, if_pos h1, if_pos h2, if_neg h3])
      · refine lv_aload_n C.1 C.2.1 d_DI_hear_33 rfl (lv_at hl 1 rfl) ?_
        refine xgetN C hP ho rfl c_ME (k := 7) (v := .int (st 7 7 o)) (by decide) wn_76 rfl d_DI_hear_34 ?_
        refine lv_aload_n C.1 C.2.1 d_DI_hear_37 rfl (lv_at hl 0 rfl) ?_
        refine xget C hP hi rfl c_DI (k := 3) (v := .int (st 15 3 i)) (by decide) wg_328 rfl d_DI_hear_38 ?_
        refine lv_icmp_ne (tgt := 48) C.1 C.2.1 d_DI_hear_41 (by decide) (fun h4 => ?_) (fun h4 => ?_)
        · refine lv_iconst (v := 0) C.1 C.2.1 d_DI_hear_48 (by decide) ?_
          refine lv_istore_n C.1 C.2.1 d_DI_hear_49 rfl hl (by decide) rfl (fun ls hl => ?_)
          have hl : lv_has ls 4 [(3, .int 0), (0, .ref (b + ji)), (1, .ref (b + jo)), (2, .int a2)] := hl
          refine lv_iload_n C.1 C.2.1 d_DI_hear_50 rfl (lv_at hl 0 rfl) ?_
          refine lv_if_eq (tgt := 94) C.1 C.2.1 d_DI_hear_51 (by decide) (fun _ => ?_) (fun h => absurd (by decide) h)
          exact xrv C hlk hr hP hS d_DI_hear_94 (by rw [f_DI_hear, if_pos h1, if_pos h2, if_pos h3, if_neg h4])
        · refine lv_iconst (v := 1) C.1 C.2.1 d_DI_hear_44 (by decide) ?_
          refine lv_goto (tgt := 49) C.1 C.2.1 d_DI_hear_45 (by decide) ?_
          refine lv_istore_n C.1 C.2.1 d_DI_hear_49 rfl hl (by decide) rfl (fun ls hl => ?_)
          have hl : lv_has ls 4 [(3, .int 1), (0, .ref (b + ji)), (1, .ref (b + jo)), (2, .int a2)] := hl
          refine lv_iload_n C.1 C.2.1 d_DI_hear_50 rfl (lv_at hl 0 rfl) ?_
          refine lv_if_eq (tgt := 94) C.1 C.2.1 d_DI_hear_51 (by decide) (fun h => absurd h (by decide)) (fun _ => ?_)
          refine lv_aload_n C.1 C.2.1 d_DI_hear_54 rfl (lv_at hl 2 rfl) ?_
          refine xgetN C hP ho rfl c_ME (k := 0) (v := .int (st 7 0 o)) (by decide) wn_50 rfl d_DI_hear_55 ?_
          refine lv_aload_n C.1 C.2.1 d_DI_hear_58 rfl (lv_at hl 1 rfl) ?_
          refine xget C hP hi rfl c_DI (k := 4) (v := .int (st 15 4 i)) (by decide) wg_329 rfl d_DI_hear_59 ?_
          refine lv_icmp_le (tgt := 94) C.1 C.2.1 d_DI_hear_62 (by decide) (fun h5 => ?_) (fun h5 => ?_)
          · exact xrv C hlk hr hP hS d_DI_hear_94 (by rw [f_DI_hear, if_pos h1, if_pos h2, if_pos h3, if_pos h4, if_pos h5])
          · refine lv_aload_n C.1 C.2.1 d_DI_hear_65 rfl (lv_at hl 1 rfl) ?_
            refine lv_aload_n C.1 C.2.1 d_DI_hear_66 rfl (lv_at hl 2 rfl) ?_
            refine xgetN C hP ho rfl c_ME (k := 0) (v := .int (st 7 0 o)) (by decide) wn_50 rfl d_DI_hear_67 ?_
            refine xput cw_inj C hP hS hi rfl c_DI (k := 4) (x := (st 7 0 o)) (by decide) wg_329 rfl rfl rfl rfl d_DI_hear_70 (fun H locs hP hS => ?_)
            refine lv_aload_n C.1 C.2.1 d_DI_hear_73 rfl (lv_at hl 1 rfl) ?_
            refine lv_aload_n C.1 C.2.1 d_DI_hear_74 rfl (lv_at hl 2 rfl) ?_
            refine xgetN C hP ho rfl c_ME (k := 5) (v := .int (st 7 5 o)) (by decide) wn_69 (congrArg Value.int (xu_a (by decide))) d_DI_hear_75 ?_
            refine xput cw_inj C hP hS hi rfl c_DI (k := 5) (x := (st 7 5 o)) (by decide) wg_330 rfl rfl rfl rfl d_DI_hear_78 (fun H locs hP hS => ?_)
            refine lv_aload_n C.1 C.2.1 d_DI_hear_81 rfl (lv_at hl 1 rfl) ?_
            refine lv_aload_n C.1 C.2.1 d_DI_hear_82 rfl (lv_at hl 2 rfl) ?_
            refine xgetN C hP ho rfl c_ME (k := 6) (v := .int (st 7 6 o)) (by decide) wn_73 (congrArg Value.int (Eq.trans (xu_a (by decide)) (xu_a (by decide)))) d_DI_hear_83 ?_
            refine xput cw_inj C hP hS hi rfl c_DI (k := 6) (x := (st 7 6 o)) (by decide) wg_332 rfl rfl rfl rfl d_DI_hear_86 (fun H locs hP hS => ?_)
            refine lv_aload_n C.1 C.2.1 d_DI_hear_89 rfl (lv_at hl 1 rfl) ?_
            refine lv_iload_n C.1 C.2.1 d_DI_hear_90 rfl (lv_at hl 3 rfl) ?_
            refine xput cw_inj C hP hS hi rfl c_DI (k := 7) (x := a2) (by decide) wg_334 rfl rfl rfl rfl d_DI_hear_91 (fun H locs hP hS => ?_)
            exact xrv C hlk hr hP hS d_DI_hear_94 (by rw [f_DI_hear, if_pos h1, if_pos h2, if_pos h3, if_pos h4, if_neg h5])

def f_SE_describe (st : XS) (d : Nat) (a1 : Int32) (a2 : Int32) (a3 : Int32) : XS :=
  (xu (f_RA_set (xu st 10 1 d 1) (200 + d) a1 a2 a3) 10 2 d a1)
set_option maxRecDepth 100000 in
set_option maxHeartbeats 4000000 in
theorem fr_SE_describe {st : XS} {d : Nat} {a1 : Int32} {a2 : Int32} {a3 : Int32} {a' k' i' : Nat} (h : (a', k') ∉ ([(10, 1), (10, 2), (11, 0), (11, 1), (11, 2)] : List (Nat × Nat))) (h2 : a' ∉ ([] : List Nat)) : (f_SE_describe st d a1 a2 a3) a' k' i' = st a' k' i' := by
  unfold f_SE_describe
  repeat' split
  all_goals (try dsimp only)
  all_goals (repeat (first | with_reducible rfl | rw [xu_f (fun e => h (by rw [e]; decide))] | rw [fr_RA_set (fun q => h ((by decide : ∀ z ∈ ([(11, 0), (11, 1), (11, 2)] : List (Nat × Nat)), z ∈ ([(10, 1), (10, 2), (11, 0), (11, 1), (11, 2)] : List (Nat × Nat))) _ q)) (fun q => h2 ((by decide : ∀ z ∈ ([] : List Nat), z ∈ ([] : List Nat)) _ q))]))
theorem p_SE_describe {st : XS} {d : Nat} {a1 : Int32} {a2 : Int32} {a3 : Int32} (h : pok st) : pok (f_SE_describe st d a1 a2 a3) := pok_of h (fr_SE_describe (by decide) (by decide)) (fun _ => fr_SE_describe (by simp) (by decide))
set_option maxRecDepth 100000 in
set_option maxHeartbeats 4000000 in
theorem k_SE_describe (l : Launch) (D : va_G) (cA : Nat → ClassId) (b : Nat) (st : XS) (d : Nat) (hd : d < 8) (a1 : Int32) (a2 : Int32) (a3 : Int32) : xMv cw D cA b l y_SE_describe (Cond.code y_SE_describe b_SE_describe 4 none) { frames := 1, cells := 0, slots := 0, locals := 23 } st [.ref (b + (75 + 20 * d)), .int a1, .int a2, .int a3] (f_SE_describe st d a1 a2 a3) := by
  refine xMv_of rfl (by decide) (Nat.le_of_ble_eq_true rfl) ?_
  intro p e s m below meth c ls C hlk hr hml hl hP hS
  have hl : lv_has ls 4 [(0, .ref (b + (75 + 20 * d))), (1, .int a1), (2, .int a2), (3, .int a3)] := hl
  refine lv_aload_n C.1 C.2.1 d_SE_describe_0 rfl (lv_at hl 0 rfl) ?_
  refine lv_iconst (v := 1) C.1 C.2.1 d_SE_describe_1 (by decide) ?_
  refine xputz cw_inj C hP hS (o_SE hd) rfl c_SE (k := 1) (x := 1) (by decide) wg_146 rfl bz_1 rfl rfl d_SE_describe_2 (fun H locs hP hS => ?_)
  refine lv_aload_n C.1 C.2.1 d_SE_describe_5 rfl (lv_at hl 0 rfl) ?_
  refine xget C hP (o_SE hd) rfl c_SE (k := 0) (v := .ref (b + (76 + 20 * d))) (by decide) wg_144 rfl d_SE_describe_6 ?_
  refine lv_iload_n C.1 C.2.1 d_SE_describe_9 rfl (lv_at hl 1 rfl) ?_
  refine lv_iload_n C.1 C.2.1 d_SE_describe_10 rfl (lv_at hl 2 rfl) ?_
  refine lv_iload_n C.1 C.2.1 d_SE_describe_11 rfl (lv_at hl 3 rfl) ?_
  refine xcVNv (rest := []) C hml hl.1 (k_RA_set l D cA b (xu st 10 1 d 1) (76 + 20 * d) (200 + d) (o_RS hd) a1 a2 a3) q_RA_set rfl rfl wn_455 wg_457 ws_5 ⟨Nat.le_of_ble_eq_true rfl, Nat.le_of_ble_eq_true rfl⟩ hP hS (o_RS hd) rfl c_RA rfl (Nat.le_of_ble_eq_true rfl) d_SE_describe_12 rfl (fun H locs hP hS => ?_)
  refine lv_aload_n C.1 C.2.1 d_SE_describe_15 rfl (lv_at hl 0 rfl) ?_
  refine lv_iload_n C.1 C.2.1 d_SE_describe_16 rfl (lv_at hl 1 rfl) ?_
  refine xput cw_inj C hP hS (o_SE hd) rfl c_SE (k := 2) (x := a1) (by decide) wg_149 rfl rfl rfl rfl d_SE_describe_17 (fun H locs hP hS => ?_)
  exact xrv C hlk hr hP hS d_SE_describe_20 (by rw [f_SE_describe])

def f_SE_holderAt (st : XS) (d : Nat) (a1 : Int32) : Int32 :=
  if 10000 ≤ (a1 - (st 10 5 d)) then (-1)
  else (st 10 4 d)
set_option maxRecDepth 100000 in
set_option maxHeartbeats 4000000 in
theorem k_SE_holderAt (l : Launch) (D : va_G) (cA : Nat → ClassId) (b : Nat) (st : XS) (d : Nat) (hd : d < 8) (a1 : Int32) : xMi cw D cA b l y_SE_holderAt (Cond.code y_SE_holderAt b_SE_holderAt 2 (some .int)) { frames := 0, cells := 0, slots := 0, locals := 0 } st [.ref (b + (75 + 20 * d)), .int a1] (f_SE_holderAt st d a1) st := by
  refine xMi_of rfl (by decide) (Nat.le_of_ble_eq_true rfl) ?_
  intro p e s m below meth c ls C hlk hr hml hl hP hS
  have hl : lv_has ls 2 [(0, .ref (b + (75 + 20 * d))), (1, .int a1)] := hl
  refine lv_iload_n C.1 C.2.1 d_SE_holderAt_0 rfl (lv_at hl 1 rfl) ?_
  refine lv_aload_n C.1 C.2.1 d_SE_holderAt_1 rfl (lv_at hl 0 rfl) ?_
  refine xget C hP (o_SE hd) rfl c_SE (k := 5) (v := .int (st 10 5 d)) (by decide) wg_155 rfl d_SE_holderAt_2 ?_
  refine lv_isub C.1 C.2.1 d_SE_holderAt_5 ?_
  refine lv_sipush (v := 10000) C.1 C.2.1 d_SE_holderAt_6 (by decide) ?_
  refine lv_icmp_ge (tgt := 19) C.1 C.2.1 d_SE_holderAt_9 (by decide) (fun h1 => ?_) (fun h1 => ?_)
  · refine lv_iconst (v := (-1)) C.1 C.2.1 d_SE_holderAt_19 (by decide) ?_
    exact xri C hlk hr hP hS d_SE_holderAt_20 ⟨by rw [f_SE_holderAt, if_pos h1], rfl⟩
  · refine lv_aload_n C.1 C.2.1 d_SE_holderAt_12 rfl (lv_at hl 0 rfl) ?_
    refine xget C hP (o_SE hd) rfl c_SE (k := 4) (v := .int (st 10 4 d)) (by decide) wg_153 rfl d_SE_holderAt_13 ?_
    refine lv_goto (tgt := 20) C.1 C.2.1 d_SE_holderAt_16 (by decide) ?_
    exact xri C hlk hr hP hS d_SE_holderAt_20 ⟨by rw [f_SE_holderAt, if_neg h1], rfl⟩

def f_CH_begin (st : XS) (i : Nat) (a1 : Int32) (a2 : Int32) (a3 : Int32) (a4 : Int32) : XS :=
  (xu (f_RA_set (xu st 12 3 i a1) i a2 a3 a4) 13 0 i 0)
set_option maxRecDepth 100000 in
set_option maxHeartbeats 4000000 in
theorem fr_CH_begin {st : XS} {i : Nat} {a1 : Int32} {a2 : Int32} {a3 : Int32} {a4 : Int32} {a' k' i' : Nat} (h : (a', k') ∉ ([(11, 0), (11, 1), (11, 2), (12, 3), (13, 0)] : List (Nat × Nat))) (h2 : a' ∉ ([] : List Nat)) : (f_CH_begin st i a1 a2 a3 a4) a' k' i' = st a' k' i' := by
  unfold f_CH_begin
  repeat' split
  all_goals (try dsimp only)
  all_goals (repeat (first | with_reducible rfl | rw [xu_f (fun e => h (by rw [e]; decide))] | rw [fr_RA_set (fun q => h ((by decide : ∀ z ∈ ([(11, 0), (11, 1), (11, 2)] : List (Nat × Nat)), z ∈ ([(11, 0), (11, 1), (11, 2), (12, 3), (13, 0)] : List (Nat × Nat))) _ q)) (fun q => h2 ((by decide : ∀ z ∈ ([] : List Nat), z ∈ ([] : List Nat)) _ q))]))
theorem p_CH_begin {st : XS} {i : Nat} {a1 : Int32} {a2 : Int32} {a3 : Int32} {a4 : Int32} (h : pok st) : pok (f_CH_begin st i a1 a2 a3 a4) := pok_of h (fr_CH_begin (by decide) (by decide)) (fun _ => fr_CH_begin (by simp) (by decide))
set_option maxRecDepth 100000 in
set_option maxHeartbeats 4000000 in
theorem k_CH_begin (l : Launch) (D : va_G) (cA : Nat → ClassId) (b : Nat) (st : XS) (i : Nat) (hi : cix i) (a1 : Int32) (a2 : Int32) (a3 : Int32) (a4 : Int32) : xMv cw D cA b l y_CH_begin (Cond.code y_CH_begin b_CH_begin 5 none) { frames := 1, cells := 0, slots := 0, locals := 23 } st [.ref (b + (77 + i)), .int a1, .int a2, .int a3, .int a4] (f_CH_begin st i a1 a2 a3 a4) := by
  refine xMv_of rfl (by decide) (Nat.le_of_ble_eq_true rfl) ?_
  intro p e s m below meth c ls C hlk hr hml hl hP hS
  have hl : lv_has ls 5 [(0, .ref (b + (77 + i))), (1, .int a1), (2, .int a2), (3, .int a3), (4, .int a4)] := hl
  refine lv_aload_n C.1 C.2.1 d_CH_begin_0 rfl (lv_at hl 0 rfl) ?_
  refine lv_iload_n C.1 C.2.1 d_CH_begin_1 rfl (lv_at hl 1 rfl) ?_
  refine xput cw_inj C hP hS (o_CH hi) rfl c_CH (k := 3) (x := a1) (by decide) wg_248 rfl rfl rfl rfl d_CH_begin_2 (fun H locs hP hS => ?_)
  refine lv_aload_n C.1 C.2.1 d_CH_begin_5 rfl (lv_at hl 0 rfl) ?_
  refine xget C hP (o_CH hi) rfl c_CH (k := 0) (v := .ref (b + (78 + i))) (by decide) wg_240 rfl d_CH_begin_6 ?_
  refine lv_iload_n C.1 C.2.1 d_CH_begin_9 rfl (lv_at hl 2 rfl) ?_
  refine lv_iload_n C.1 C.2.1 d_CH_begin_10 rfl (lv_at hl 3 rfl) ?_
  refine lv_iload C.1 C.2.1 d_CH_begin_11 (lv_at hl 4 rfl) ?_
  refine xcVNv (rest := []) C hml hl.1 (k_RA_set l D cA b (xu st 12 3 i a1) (78 + i) i (o_RC hi) a2 a3 a4) q_RA_set rfl rfl wn_733 wg_457 ws_5 ⟨Nat.le_of_ble_eq_true rfl, Nat.le_of_ble_eq_true rfl⟩ hP hS (o_RC hi) rfl c_RA rfl (Nat.le_of_ble_eq_true rfl) d_CH_begin_13 rfl (fun H locs hP hS => ?_)
  refine lv_aload_n C.1 C.2.1 d_CH_begin_16 rfl (lv_at hl 0 rfl) ?_
  refine xget C hP (o_CH hi) rfl c_CH (k := 1) (v := .ref (b + (79 + i))) (by decide) wg_242 rfl d_CH_begin_17 ?_
  refine lv_iconst (v := 0) C.1 C.2.1 d_CH_begin_20 (by decide) ?_
  refine xputNz cw_inj C hP hS (o_AL hi) rfl c_AL (k := 0) (x := 0) (by decide) wn_186 rfl bz_0 rfl rfl d_CH_begin_21 (fun H locs hP hS => ?_)
  exact xrv C hlk hr hP hS d_CH_begin_24 (by rw [f_CH_begin])

def f_CH_measure (st : XS) (i : Nat) (a1 : Int32) (a2 : Int32) : XS :=
  (f_AL_watch (xu (xu (xu (xu st 12 4 i 1) 12 5 i a1) 12 6 i a2) 12 7 i 1) i a1 a2)
set_option maxRecDepth 100000 in
set_option maxHeartbeats 4000000 in
theorem fr_CH_measure {st : XS} {i : Nat} {a1 : Int32} {a2 : Int32} {a' k' i' : Nat} (h : (a', k') ∉ ([(12, 4), (12, 5), (12, 6), (12, 7), (13, 4), (13, 5)] : List (Nat × Nat))) (h2 : a' ∉ ([] : List Nat)) : (f_CH_measure st i a1 a2) a' k' i' = st a' k' i' := by
  unfold f_CH_measure
  repeat' split
  all_goals (try dsimp only)
  all_goals (repeat (first | with_reducible rfl | rw [xu_f (fun e => h (by rw [e]; decide))] | rw [fr_AL_watch (fun q => h ((by decide : ∀ z ∈ ([(13, 4), (13, 5)] : List (Nat × Nat)), z ∈ ([(12, 4), (12, 5), (12, 6), (12, 7), (13, 4), (13, 5)] : List (Nat × Nat))) _ q)) (fun q => h2 ((by decide : ∀ z ∈ ([] : List Nat), z ∈ ([] : List Nat)) _ q))]))
theorem p_CH_measure {st : XS} {i : Nat} {a1 : Int32} {a2 : Int32} (h : pok st) : pok (f_CH_measure st i a1 a2) := pok_of h (fr_CH_measure (by decide) (by decide)) (fun _ => fr_CH_measure (by simp) (by decide))
set_option maxRecDepth 100000 in
set_option maxHeartbeats 4000000 in
theorem k_CH_measure (l : Launch) (D : va_G) (cA : Nat → ClassId) (b : Nat) (st : XS) (i : Nat) (hi : cix i) (a1 : Int32) (a2 : Int32) : xMv cw D cA b l y_CH_measure (Cond.code y_CH_measure b_CH_measure 3 none) { frames := 1, cells := 0, slots := 0, locals := 23 } st [.ref (b + (77 + i)), .int a1, .int a2] (f_CH_measure st i a1 a2) := by
  refine xMv_of rfl (by decide) (Nat.le_of_ble_eq_true rfl) ?_
  intro p e s m below meth c ls C hlk hr hml hl hP hS
  have hl : lv_has ls 3 [(0, .ref (b + (77 + i))), (1, .int a1), (2, .int a2)] := hl
  refine lv_aload_n C.1 C.2.1 d_CH_measure_0 rfl (lv_at hl 0 rfl) ?_
  refine lv_iconst (v := 1) C.1 C.2.1 d_CH_measure_1 (by decide) ?_
  refine xputz cw_inj C hP hS (o_CH hi) rfl c_CH (k := 4) (x := 1) (by decide) wg_250 rfl bz_1 rfl rfl d_CH_measure_2 (fun H locs hP hS => ?_)
  refine lv_aload_n C.1 C.2.1 d_CH_measure_5 rfl (lv_at hl 0 rfl) ?_
  refine lv_iload_n C.1 C.2.1 d_CH_measure_6 rfl (lv_at hl 1 rfl) ?_
  refine xput cw_inj C hP hS (o_CH hi) rfl c_CH (k := 5) (x := a1) (by decide) wg_252 rfl rfl rfl rfl d_CH_measure_7 (fun H locs hP hS => ?_)
  refine lv_aload_n C.1 C.2.1 d_CH_measure_10 rfl (lv_at hl 0 rfl) ?_
  refine lv_iload_n C.1 C.2.1 d_CH_measure_11 rfl (lv_at hl 2 rfl) ?_
  refine xput cw_inj C hP hS (o_CH hi) rfl c_CH (k := 6) (x := a2) (by decide) wg_254 rfl rfl rfl rfl d_CH_measure_12 (fun H locs hP hS => ?_)
  refine lv_aload_n C.1 C.2.1 d_CH_measure_15 rfl (lv_at hl 0 rfl) ?_
  refine lv_iconst (v := 1) C.1 C.2.1 d_CH_measure_16 (by decide) ?_
  refine xputz cw_inj C hP hS (o_CH hi) rfl c_CH (k := 7) (x := 1) (by decide) wg_256 rfl bz_1 rfl rfl d_CH_measure_17 (fun H locs hP hS => ?_)
  refine lv_aload_n C.1 C.2.1 d_CH_measure_20 rfl (lv_at hl 0 rfl) ?_
  refine xget C hP (o_CH hi) rfl c_CH (k := 1) (v := .ref (b + (79 + i))) (by decide) wg_242 rfl d_CH_measure_21 ?_
  refine lv_iload_n C.1 C.2.1 d_CH_measure_24 rfl (lv_at hl 1 rfl) ?_
  refine lv_iload_n C.1 C.2.1 d_CH_measure_25 rfl (lv_at hl 2 rfl) ?_
  refine xcVNv (rest := []) C hml hl.1 (k_AL_watch l D cA b (xu (xu (xu (xu st 12 4 i 1) 12 5 i a1) 12 6 i a2) 12 7 i 1) (79 + i) i (o_AL hi) a1 a2) q_AL_watch rfl rfl wn_495 wg_497 ws_10 ⟨Nat.le_of_ble_eq_true rfl, Nat.le_of_ble_eq_true rfl⟩ hP hS (o_AL hi) rfl c_AL rfl (Nat.le_of_ble_eq_true rfl) d_CH_measure_26 rfl (fun H locs hP hS => ?_)
  exact xrv C hlk hr hP hS d_CH_measure_29 (by rw [f_CH_measure])

def f_CH_forget (st : XS) (i : Nat) : XS :=
  (f_AL_forget (xu st 12 4 i 0) i)
set_option maxRecDepth 100000 in
set_option maxHeartbeats 4000000 in
theorem fr_CH_forget {st : XS} {i : Nat} {a' k' i' : Nat} (h : (a', k') ∉ ([(12, 4), (13, 4), (13, 6), (13, 7), (13, 8)] : List (Nat × Nat))) (h2 : a' ∉ ([] : List Nat)) : (f_CH_forget st i) a' k' i' = st a' k' i' := by
  unfold f_CH_forget
  repeat' split
  all_goals (try dsimp only)
  all_goals (repeat (first | with_reducible rfl | rw [xu_f (fun e => h (by rw [e]; decide))] | rw [fr_AL_forget (fun q => h ((by decide : ∀ z ∈ ([(13, 4), (13, 6), (13, 7), (13, 8)] : List (Nat × Nat)), z ∈ ([(12, 4), (13, 4), (13, 6), (13, 7), (13, 8)] : List (Nat × Nat))) _ q)) (fun q => h2 ((by decide : ∀ z ∈ ([] : List Nat), z ∈ ([] : List Nat)) _ q))]))
theorem p_CH_forget {st : XS} {i : Nat} (h : pok st) : pok (f_CH_forget st i) := pok_of h (fr_CH_forget (by decide) (by decide)) (fun _ => fr_CH_forget (by simp) (by decide))
set_option maxRecDepth 100000 in
set_option maxHeartbeats 4000000 in
theorem k_CH_forget (l : Launch) (D : va_G) (cA : Nat → ClassId) (b : Nat) (st : XS) (i : Nat) (hi : cix i) : xMv cw D cA b l y_CH_forget (Cond.code y_CH_forget b_CH_forget 1 none) { frames := 1, cells := 0, slots := 0, locals := 20 } st [.ref (b + (77 + i))] (f_CH_forget st i) := by
  refine xMv_of rfl (by decide) (Nat.le_of_ble_eq_true rfl) ?_
  intro p e s m below meth c ls C hlk hr hml hl hP hS
  have hl : lv_has ls 1 [(0, .ref (b + (77 + i)))] := hl
  refine lv_aload_n C.1 C.2.1 d_CH_forget_0 rfl (lv_at hl 0 rfl) ?_
  refine lv_iconst (v := 0) C.1 C.2.1 d_CH_forget_1 (by decide) ?_
  refine xputz cw_inj C hP hS (o_CH hi) rfl c_CH (k := 4) (x := 0) (by decide) wg_250 rfl bz_0 rfl rfl d_CH_forget_2 (fun H locs hP hS => ?_)
  refine lv_aload_n C.1 C.2.1 d_CH_forget_5 rfl (lv_at hl 0 rfl) ?_
  refine xget C hP (o_CH hi) rfl c_CH (k := 1) (v := .ref (b + (79 + i))) (by decide) wg_242 rfl d_CH_forget_6 ?_
  refine xcVNv (rest := []) C hml hl.1 (k_AL_forget l D cA b (xu st 12 4 i 0) (79 + i) i (o_AL hi)) q_AL_forget rfl rfl wn_621 wg_623 ws_33 ⟨Nat.le_of_ble_eq_true rfl, Nat.le_of_ble_eq_true rfl⟩ hP hS (o_AL hi) rfl c_AL rfl (Nat.le_of_ble_eq_true rfl) d_CH_forget_9 rfl (fun H locs hP hS => ?_)
  exact xrv C hlk hr hP hS d_CH_forget_12 (by rw [f_CH_forget])

def f_DE_begin (st : XS) (d : Nat) (a1 : Int32) : XS :=
  (xu (xu (xu (xu st 8 2 d 1) 8 3 d a1) 8 5 d 0) 10 1 d 0)
set_option maxRecDepth 100000 in
set_option maxHeartbeats 4000000 in
theorem fr_DE_begin {st : XS} {d : Nat} {a1 : Int32} {a' k' i' : Nat} (h : (a', k') ∉ ([(8, 2), (8, 3), (8, 5), (10, 1)] : List (Nat × Nat))) (h2 : a' ∉ ([] : List Nat)) : (f_DE_begin st d a1) a' k' i' = st a' k' i' := by
  unfold f_DE_begin
  repeat' split
  all_goals (try dsimp only)
  all_goals (repeat (first | with_reducible rfl | rw [xu_f (fun e => h (by rw [e]; decide))]))
theorem p_DE_begin {st : XS} {d : Nat} {a1 : Int32} (h : pok st) : pok (f_DE_begin st d a1) := pok_of h (fr_DE_begin (by decide) (by decide)) (fun _ => fr_DE_begin (by simp) (by decide))
set_option maxRecDepth 100000 in
set_option maxHeartbeats 4000000 in
theorem k_DE_begin (l : Launch) (D : va_G) (cA : Nat → ClassId) (b : Nat) (st : XS) (d : Nat) (hd : d < 8) (a1 : Int32) : xMv cw D cA b l y_DE_begin (Cond.code y_DE_begin b_DE_begin 2 none) { frames := 0, cells := 0, slots := 0, locals := 0 } st [.ref (b + (73 + 20 * d)), .int a1] (f_DE_begin st d a1) := by
  refine xMv_of rfl (by decide) (Nat.le_of_ble_eq_true rfl) ?_
  intro p e s m below meth c ls C hlk hr hml hl hP hS
  have hl : lv_has ls 2 [(0, .ref (b + (73 + 20 * d))), (1, .int a1)] := hl
  refine lv_aload_n C.1 C.2.1 d_DE_begin_0 rfl (lv_at hl 0 rfl) ?_
  refine lv_iconst (v := 1) C.1 C.2.1 d_DE_begin_1 (by decide) ?_
  refine xput cw_inj C hP hS (o_DE hd) rfl c_DE (k := 2) (x := 1) (by decide) wg_284 rfl rfl rfl rfl d_DE_begin_2 (fun H locs hP hS => ?_)
  refine lv_aload_n C.1 C.2.1 d_DE_begin_5 rfl (lv_at hl 0 rfl) ?_
  refine lv_iload_n C.1 C.2.1 d_DE_begin_6 rfl (lv_at hl 1 rfl) ?_
  refine xput cw_inj C hP hS (o_DE hd) rfl c_DE (k := 3) (x := a1) (by decide) wg_286 rfl rfl rfl rfl d_DE_begin_7 (fun H locs hP hS => ?_)
  refine lv_aload_n C.1 C.2.1 d_DE_begin_10 rfl (lv_at hl 0 rfl) ?_
  refine lv_iconst (v := 0) C.1 C.2.1 d_DE_begin_11 (by decide) ?_
  refine xput cw_inj C hP hS (o_DE hd) rfl c_DE (k := 5) (x := 0) (by decide) wg_290 rfl rfl rfl rfl d_DE_begin_12 (fun H locs hP hS => ?_)
  refine lv_aload_n C.1 C.2.1 d_DE_begin_15 rfl (lv_at hl 0 rfl) ?_
  refine xget C hP (o_DE hd) rfl c_DE (k := 1) (v := .ref (b + (75 + 20 * d))) (by decide) wg_282 rfl d_DE_begin_16 ?_
  refine lv_iconst (v := 0) C.1 C.2.1 d_DE_begin_19 (by decide) ?_
  refine xputNz cw_inj C hP hS (o_SE hd) rfl c_SE (k := 1) (x := 0) (by decide) wn_147 rfl bz_0 rfl rfl d_DE_begin_20 (fun H locs hP hS => ?_)
  exact xrv C hlk hr hP hS d_DE_begin_23 (by rw [f_DE_begin])

def f_DE_hasChannel (st : XS) (d : Nat) (a1 : Int32) : Int32 :=
  if a1 < 0 then 0
  else if (st 8 5 d) ≤ a1 then 0
  else 1
set_option maxRecDepth 100000 in
set_option maxHeartbeats 4000000 in
theorem z_DE_hasChannel {st : XS} {d : Nat} {a1 : Int32} : bz (f_DE_hasChannel st d a1) = (f_DE_hasChannel st d a1) := by
  unfold f_DE_hasChannel
  repeat' split
  all_goals first | with_reducible exact bz_0 | with_reducible exact bz_1 | with_reducible exact bz_bz _
set_option maxRecDepth 100000 in
set_option maxHeartbeats 4000000 in
theorem k_DE_hasChannel (l : Launch) (D : va_G) (cA : Nat → ClassId) (b : Nat) (st : XS) (d : Nat) (hd : d < 8) (a1 : Int32) : xMi cw D cA b l y_DE_hasChannel (Cond.code y_DE_hasChannel b_DE_hasChannel 2 (some .boolean)) { frames := 0, cells := 0, slots := 0, locals := 0 } st [.ref (b + (73 + 20 * d)), .int a1] (f_DE_hasChannel st d a1) st := by
  refine xMi_of rfl (by decide) (Nat.le_of_ble_eq_true rfl) ?_
  intro p e s m below meth c ls C hlk hr hml hl hP hS
  have hl : lv_has ls 2 [(0, .ref (b + (73 + 20 * d))), (1, .int a1)] := hl
  refine lv_iload_n C.1 C.2.1 d_DE_hasChannel_0 rfl (lv_at hl 1 rfl) ?_
  refine lv_if_lt (tgt := 16) C.1 C.2.1 d_DE_hasChannel_1 (by decide) (fun h1 => ?_) (fun h1 => ?_)
  · refine lv_iconst (v := 0) C.1 C.2.1 d_DE_hasChannel_16 (by decide) ?_
    exact xrz C hlk hr bz_0 hP hS d_DE_hasChannel_17 ⟨by rw [f_DE_hasChannel, if_pos h1], rfl⟩
  · refine lv_iload_n C.1 C.2.1 d_DE_hasChannel_4 rfl (lv_at hl 1 rfl) ?_
    refine lv_aload_n C.1 C.2.1 d_DE_hasChannel_5 rfl (lv_at hl 0 rfl) ?_
    refine xget C hP (o_DE hd) rfl c_DE (k := 5) (v := .int (st 8 5 d)) (by decide) wg_290 rfl d_DE_hasChannel_6 ?_
    refine lv_icmp_ge (tgt := 16) C.1 C.2.1 d_DE_hasChannel_9 (by decide) (fun h2 => ?_) (fun h2 => ?_)
    · refine lv_iconst (v := 0) C.1 C.2.1 d_DE_hasChannel_16 (by decide) ?_
      exact xrz C hlk hr bz_0 hP hS d_DE_hasChannel_17 ⟨by rw [f_DE_hasChannel, if_neg h1, if_pos h2], rfl⟩
    · refine lv_iconst (v := 1) C.1 C.2.1 d_DE_hasChannel_12 (by decide) ?_
      refine lv_goto (tgt := 17) C.1 C.2.1 d_DE_hasChannel_13 (by decide) ?_
      exact xrz C hlk hr bz_1 hP hS d_DE_hasChannel_17 ⟨by rw [f_DE_hasChannel, if_neg h1, if_neg h2], rfl⟩
