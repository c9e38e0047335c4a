def g_MO_patient_37 : Nat → XS → Int32 → Int32 → Int32 → XS
  | 0, st, a1, a2, x3 => st
  | n + 1, st, a1, a2, x3 =>
    if 8 ≤ x3 then st
    else if (st 3 x3.toNatClampNeg 0) = a1 then (g_MO_patient_37 n (f_MO_untie st x3) a1 a2 (x3 + 1))
    else (g_MO_patient_37 n st a1 a2 (x3 + 1))
set_option maxRecDepth 100000 in
set_option maxHeartbeats 4000000 in
theorem w_MO_patient_37 (l : Launch) (D : va_G) (cA : Nat → ClassId) (b : Nat) (a1 : Int32) (a2 : Int32) {p : Program} {e : Env} {s : State} {m : MethodId} {below : List Frame} {meth : Method} {c : Code} {Q : State → Prop} (C : xCx p s m ([.ref (b + 0), .int a1, .int a2] : List Value).toArray c b_MO_patient y_MO_patient.cls D cA) (hml : c.maxLocals = 4) {stE : XS} (kx : ∀ (H1 : Heap) (locs1 : List Loc) (ls1 : Array Slot), xP mw D cA b stE H1 → va_S (xA mw b) s.heap H1 locs1 → lv_has ls1 4 [(0, .ref (b + 0)), (1, .int a1), (2, .int a2)] → W p l e { frames := 3, cells := 0, slots := 0, locals := 65 } s m ([.ref (b + 0), .int a1, .int a2] : List Value).toArray below meth c H1 locs1 0 0 Q (F0 m 64 ls1 [])) : ∀ (n : Nat) (st : XS) (x3 : Int32) (H : Heap) (locs : List Loc) (ls : Array Slot), lpi 8 n x3 → lv_has ls 4 [(0, .ref (b + 0)), (1, .int a1), (2, .int a2), (3, .int x3)] → xP mw D cA b st H → va_S (xA mw b) s.heap H locs → g_MO_patient_37 n st a1 a2 x3 = stE → W p l e { frames := 3, cells := 0, slots := 0, locals := 65 } s m ([.ref (b + 0), .int a1, .int a2] : List Value).toArray below meth c H locs 0 0 Q (F0 m 37 ls []) := by
  intro n
  induction n with
  | zero =>
    intro st x3 H locs ls hx
    exact absurd hx (fun h => lpi_no h)
  | succ n ih =>
    intro st x3 H locs ls hx hl hP hS hg
    refine lv_iload_n C.1 C.2.1 d_MO_patient_37 rfl (lv_at hl 3 rfl) ?_
    refine lv_bipush (v := 8) C.1 C.2.1 d_MO_patient_38 (by decide) ?_
    refine lv_icmp_ge (tgt := 64) C.1 C.2.1 d_MO_patient_40 (by decide) (fun h1 => ?_) (fun h1 => ?_)
    · rw [g_MO_patient_37, if_pos h1] at hg
      subst hg
      exact kx _ _ ls hP hS (lv_sub hl [0, 1, 2] rfl)
    · refine lv_aload_n C.1 C.2.1 d_MO_patient_43 rfl (lv_at hl 0 rfl) ?_
      refine xget C hP o_MO rfl c_MO (k := 6) (v := .ref (b + 3)) (by decide) wg_883 rfl d_MO_patient_44 ?_
      refine lv_iload_n C.1 C.2.1 d_MO_patient_47 rfl (lv_at hl 3 rfl) ?_
      refine xiald C hP om_3 rfl (v := (st 3 x3.toNatClampNeg 0)) (lpi_ix hx (lpi_c hx h1 i32_8) (by decide)) rfl d_MO_patient_48 ?_
      refine lv_iload_n C.1 C.2.1 d_MO_patient_49 rfl (lv_at hl 1 rfl) ?_
      refine lv_icmp_ne (tgt := 58) C.1 C.2.1 d_MO_patient_50 (by decide) (fun h2 => ?_) (fun h2 => ?_)
      · refine lv_iinc (v := (x3 + 1)) C.1 C.2.1 d_MO_patient_58 hl (k := 3) rfl rfl (by decide) rfl (fun ls hl => ?_)
        have hl : lv_has ls 4 [(3, .int (x3 + 1)), (0, .ref (b + 0)), (1, .int a1), (2, .int a2)] := hl
        refine lv_goto (tgt := 37) C.1 C.2.1 d_MO_patient_61 (by decide) ?_
        rw [g_MO_patient_37, if_neg h1, if_neg h2] at hg
        exact ih _ _ _ _ ls (lpi_nx hx (lpi_c hx h1 i32_8) (by decide)) (lv_sub hl [1, 2, 3, 0] rfl) hP hS hg
      · refine lv_aload_n C.1 C.2.1 d_MO_patient_53 rfl (lv_at hl 0 rfl) ?_
        refine lv_iload_n C.1 C.2.1 d_MO_patient_54 rfl (lv_at hl 3 rfl) ?_
        refine xcVv (rest := []) C hml hl.1 (k_MO_untie l D cA b st x3 (lpi_ix hx (lpi_c hx h1 i32_8) (by decide))) q_MO_untie rfl rfl wg_1115 wg_1117 ws_55 ⟨Nat.le_of_ble_eq_true rfl, Nat.le_of_ble_eq_true rfl⟩ hP hS o_MO rfl c_MO rfl (Nat.le_of_ble_eq_true rfl) d_MO_patient_55 rfl (fun H locs hP hS => ?_)
        refine lv_iinc (v := (x3 + 1)) C.1 C.2.1 d_MO_patient_58 hl (k := 3) rfl rfl (by decide) rfl (fun ls hl => ?_)
        have hl : lv_has ls 4 [(3, .int (x3 + 1)), (0, .ref (b + 0)), (1, .int a1), (2, .int a2)] := hl
        refine lv_goto (tgt := 37) C.1 C.2.1 d_MO_patient_61 (by decide) ?_
        rw [g_MO_patient_37, if_neg h1, if_pos h2] at hg
        exact ih _ _ _ _ ls (lpi_nx hx (lpi_c hx h1 i32_8) (by decide)) (lv_sub hl [1, 2, 3, 0] rfl) hP hS hg
theorem fr_MO_patient_37 {a' k' i' : Nat} (h : (a', k') ∉ ([] : List (Nat × Nat))) (h2 : a' ∉ ([6, 24] : List Nat)) : ∀ (n : Nat) (st : XS) (a1 : Int32) (a2 : Int32) (x3 : Int32), (g_MO_patient_37 n st a1 a2 x3) a' k' i' = st a' k' i' := by
  intro n
  induction n with
  | zero => intro st a1 a2 x3; rfl
  | succ n ih =>
    intro st a1 a2 x3
    unfold g_MO_patient_37
    repeat' split
    all_goals (try dsimp only)
    all_goals (repeat (first | with_reducible rfl | rw [xu_f (fun e => h (by rw [e]; decide))] | rw [xu_a (fun e => h2 (by rw [e]; decide))] | rw [fr_MO_untie (fun q => h ((by decide : ∀ z ∈ ([] : List (Nat × Nat)), z ∈ ([] : List (Nat × Nat))) _ q)) (fun q => h2 ((by decide : ∀ z ∈ ([6, 24] : List Nat), z ∈ ([6, 24] : List Nat)) _ q))] | rw [ih]))
theorem pg_MO_patient_37 (n : Nat) (st : XS) (a1 : Int32) (a2 : Int32) (x3 : Int32) (h : qok st) : qok (g_MO_patient_37 n st a1 a2 x3) := qok_of h (fr_MO_patient_37 (by decide) (by decide) _ _ _ _ _ )
def f_MO_patient (st : XS) (a1 : Int32) (a2 : Int32) : XS × Int32 :=
  if (f_MO_isBed a1) = 0 then ((xu st 0 0 0 0), 0)
  else if a2 < 0 then ((xu st 0 0 0 0), 0)
  else if (st 1 a1.toNatClampNeg 0) = a2 then ((xu st 0 0 0 0), 0)
  else ((f_MO_settle (g_MO_patient_37 9 (xu (xu st 0 0 0 0) 1 a1.toNatClampNeg 0 a2) a1 a2 0)), 1)
set_option maxRecDepth 100000 in
set_option maxHeartbeats 4000000 in
theorem z_MO_patient {st : XS} {a1 : Int32} {a2 : Int32} : bz (f_MO_patient st a1 a2).2 = (f_MO_patient st a1 a2).2 := by
  unfold f_MO_patient
  repeat' split
  all_goals first | with_reducible exact bz_0 | with_reducible exact bz_1 | with_reducible exact bz_bz _ | with_reducible exact z_MO_isBed
set_option maxRecDepth 100000 in
set_option maxHeartbeats 4000000 in
theorem fr_MO_patient {st : XS} {a1 : Int32} {a2 : Int32} {a' k' i' : Nat} (h : (a', k') ∉ ([(0, 0), (0, 2), (0, 3), (0, 39)] : List (Nat × Nat))) (h2 : a' ∉ ([1, 6, 24, 30, 31, 32, 36, 37, 38, 39, 40, 41, 42, 43] : List Nat)) : (f_MO_patient st a1 a2).1 a' k' i' = st a' k' i' := by
  unfold f_MO_patient
  repeat' split
  all_goals (try dsimp only)
  all_goals (repeat (first | with_reducible rfl | rw [xu_f (fun e => h (by rw [e]; decide))] | rw [xu_a (fun e => h2 (by rw [e]; decide))] | rw [fr_MO_settle (fun q => h ((by decide : ∀ z ∈ ([(0, 2), (0, 3), (0, 39)] : List (Nat × Nat)), z ∈ ([(0, 0), (0, 2), (0, 3), (0, 39)] : List (Nat × Nat))) _ q)) (fun q => h2 ((by decide : ∀ z ∈ ([30, 31, 32, 36, 37, 38, 39, 40, 41, 42, 43] : List Nat), z ∈ ([1, 6, 24, 30, 31, 32, 36, 37, 38, 39, 40, 41, 42, 43] : List Nat)) _ q))] | rw [fr_MO_untie (fun q => h ((by decide : ∀ z ∈ ([] : List (Nat × Nat)), z ∈ ([(0, 0), (0, 2), (0, 3), (0, 39)] : List (Nat × Nat))) _ q)) (fun q => h2 ((by decide : ∀ z ∈ ([6, 24] : List Nat), z ∈ ([1, 6, 24, 30, 31, 32, 36, 37, 38, 39, 40, 41, 42, 43] : List Nat)) _ q))] | rw [fr_MO_patient_37 (fun q => h ((by decide : ∀ z ∈ ([] : List (Nat × Nat)), z ∈ ([(0, 0), (0, 2), (0, 3), (0, 39)] : List (Nat × Nat))) _ q)) (fun q => h2 ((by decide : ∀ z ∈ ([6, 24] : List Nat), z ∈ ([1, 6, 24, 30, 31, 32, 36, 37, 38, 39, 40, 41, 42, 43] : List Nat)) _ q))]))
theorem p_MO_patient {st : XS} {a1 : Int32} {a2 : Int32} (h : qok st) : qok (f_MO_patient st a1 a2).1 := by
  unfold f_MO_patient
  repeat' split
  all_goals (try dsimp only)
  all_goals (repeat (first | with_reducible refine pg_MO_patient_37 _ _ _ _ _ ?_ | with_reducible assumption | with_reducible refine p_MO_settle ?_ | with_reducible refine p_MO_untie ?_ | with_reducible refine qok_xa ?_ (by decide) | with_reducible refine qok_xu ?_ ?_ | decide))
set_option maxRecDepth 100000 in
set_option maxHeartbeats 4000000 in
theorem k_MO_patient (l : Launch) (D : va_G) (cA : Nat → ClassId) (b : Nat) (st : XS) (a1 : Int32) (a2 : Int32) (hq : qok st) (hc : cok st) : xMi mw D cA b l y_MO_patient (Cond.code y_MO_patient b_MO_patient 4 (some .boolean)) { frames := 3, cells := 0, slots := 0, locals := 65 } st [.ref (b + 0), .int a1, .int a2] (f_MO_patient st a1 a2).2 (f_MO_patient st a1 a2).1 := by
  refine xMi_of rfl (by decide) (Nat.le_of_ble_eq_true rfl) ?_
  intro p e s m below meth c ls C hlk hr hml hl hP hS
  have hl : lv_has ls 4 [(0, .ref (b + 0)), (1, .int a1), (2, .int a2)] := hl
  refine lv_aload_n C.1 C.2.1 d_MO_patient_0 rfl (lv_at hl 0 rfl) ?_
  refine lv_iconst (v := 0) C.1 C.2.1 d_MO_patient_1 (by decide) ?_
  refine xput mw_inj C hP hS o_MO rfl c_MO (k := 0) (x := 0) (by decide) wg_877 rfl rfl rfl rfl d_MO_patient_2 (fun H locs hP hS => ?_)
  refine lv_iload_n C.1 C.2.1 d_MO_patient_5 rfl (lv_at hl 1 rfl) ?_
  refine xcSi (rest := []) C hml hl.1 (k_MO_isBed l D cA b (xu st 0 0 0 0) a1) q_MO_isBed rfl rfl wg_1076 wg_1077 ⟨Nat.le_of_ble_eq_true rfl, Nat.le_of_ble_eq_true rfl⟩ hP hS rfl (Nat.le_of_ble_eq_true rfl) d_MO_patient_6 rfl (fun H locs hP hS => ?_)
  refine lv_if_eq (tgt := 26) C.1 C.2.1 d_MO_patient_9 (by decide) (fun h1 => ?_) (fun h1 => ?_)
  · refine lv_iconst (v := 0) C.1 C.2.1 d_MO_patient_26 (by decide) ?_
    exact xrz C hlk hr bz_0 hP hS d_MO_patient_27 ⟨by rw [f_MO_patient, if_pos h1], by rw [f_MO_patient, if_pos h1]⟩
  · refine lv_iload_n C.1 C.2.1 d_MO_patient_12 rfl (lv_at hl 2 rfl) ?_
    refine lv_if_lt (tgt := 26) C.1 C.2.1 d_MO_patient_13 (by decide) (fun h2 => ?_) (fun h2 => ?_)
    · refine lv_iconst (v := 0) C.1 C.2.1 d_MO_patient_26 (by decide) ?_
      exact xrz C hlk hr bz_0 hP hS d_MO_patient_27 ⟨by rw [f_MO_patient, if_neg h1, if_pos h2], by rw [f_MO_patient, if_neg h1, if_pos h2]⟩
    · refine lv_aload_n C.1 C.2.1 d_MO_patient_16 rfl (lv_at hl 0 rfl) ?_
      refine xget C hP o_MO rfl c_MO (k := 4) (v := .ref (b + 1)) (by decide) wg_881 rfl d_MO_patient_17 ?_
      refine lv_iload_n C.1 C.2.1 d_MO_patient_20 rfl (lv_at hl 1 rfl) ?_
      refine xiald C hP om_1 rfl (v := (st 1 a1.toNatClampNeg 0)) (vm_isBed h1) (congrArg Value.int (xu_a (by decide))) d_MO_patient_21 ?_
      refine lv_iload_n C.1 C.2.1 d_MO_patient_22 rfl (lv_at hl 2 rfl) ?_
      refine lv_icmp_ne (tgt := 28) C.1 C.2.1 d_MO_patient_23 (by decide) (fun h3 => ?_) (fun h3 => ?_)
      · refine lv_aload_n C.1 C.2.1 d_MO_patient_28 rfl (lv_at hl 0 rfl) ?_
        refine xget C hP o_MO rfl c_MO (k := 4) (v := .ref (b + 1)) (by decide) wg_881 rfl d_MO_patient_29 ?_
        refine lv_iload_n C.1 C.2.1 d_MO_patient_32 rfl (lv_at hl 1 rfl) ?_
        refine lv_iload_n C.1 C.2.1 d_MO_patient_33 rfl (lv_at hl 2 rfl) ?_
        refine xiast mw_inj C hP hS om_1 rfl (vm_isBed h1) rfl d_MO_patient_34 (fun H locs hP hS => ?_)
        refine lv_iconst (v := 0) C.1 C.2.1 d_MO_patient_35 (by decide) ?_
        refine lv_istore_n C.1 C.2.1 d_MO_patient_36 rfl hl (by decide) rfl (fun ls hl => ?_)
        have hl : lv_has ls 4 [(3, .int 0), (0, .ref (b + 0)), (1, .int a1), (2, .int a2)] := hl
        refine w_MO_patient_37 l D cA b a1 a2 C hml  (fun H locs ls hP hS hl => ?_) 9 (xu (xu st 0 0 0 0) 1 a1.toNatClampNeg 0 a2) 0 _ _ ls lpi_st (lv_sub hl [1, 2, 3, 0] rfl) hP hS rfl
        have hl : lv_has ls 4 [(0, .ref (b + 0)), (1, .int a1), (2, .int a2)] := hl
        refine lv_aload_n C.1 C.2.1 d_MO_patient_64 rfl (lv_at hl 0 rfl) ?_
        refine xcVv (rest := []) C hml hl.1 (k_MO_settle l D cA b (g_MO_patient_37 9 (xu (xu st 0 0 0 0) 1 a1.toNatClampNeg 0 a2) a1 a2 0) (qok_of (qok_xa (qok_xu hq (by decide)) (by decide)) (fr_MO_patient_37 (by decide) (by decide) _ _ _ _ _)) (cok_of (cok_of (cok_of hc (fun _ => xu_a (by decide))) (fun _ => xu_a (by decide))) (fun _ => fr_MO_patient_37 (by simp) (by decide) _ _ _ _ _))) q_MO_settle rfl rfl wg_1119 wg_1121 ws_56 ⟨Nat.le_of_ble_eq_true rfl, Nat.le_of_ble_eq_true rfl⟩ hP hS o_MO rfl c_MO rfl (Nat.le_of_ble_eq_true rfl) d_MO_patient_65 rfl (fun H locs hP hS => ?_)
        refine lv_iconst (v := 1) C.1 C.2.1 d_MO_patient_68 (by decide) ?_
        exact xrz C hlk hr bz_1 hP hS d_MO_patient_69 ⟨by rw [f_MO_patient, if_neg h1, if_neg h2, if_neg h3], by rw [f_MO_patient, if_neg h1, if_neg h2, if_neg h3]⟩
      · refine lv_iconst (v := 0) C.1 C.2.1 d_MO_patient_26 (by decide) ?_
        exact xrz C hlk hr bz_0 hP hS d_MO_patient_27 ⟨by rw [f_MO_patient, if_neg h1, if_neg h2, if_pos h3], by rw [f_MO_patient, if_neg h1, if_neg h2, if_pos h3]⟩
