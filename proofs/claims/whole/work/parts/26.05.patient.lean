def g_BN_patient_32 : Nat → XS → Int32 → Int32 → Int32 → XS
  | 0, st, a1, a2, x3 => st
  | n + 1, st, a1, a2, x3 =>
    if 8 ≤ x3 then st
    else if (st 8 3 x3.toNatClampNeg) = a1 then (g_BN_patient_32 n (xu st 8 6 x3.toNatClampNeg 0) a1 a2 (x3 + 1))
    else (g_BN_patient_32 n st a1 a2 (x3 + 1))
set_option maxRecDepth 100000 in
set_option maxHeartbeats 4000000 in
theorem w_BN_patient_32 (l : Launch) (D : va_G) (cA : Nat → ClassId) (b : Nat) (a1 : Int32) (a2 : Int32) {p : Program} {e : Env} {s : State} {m : MethodId} {below : List Frame} {meth : Method} {c : Code} {Q : State → Prop} (C : xCx p s m ([.ref (b + 0), .int a1, .int a2] : List Value).toArray c b_BN_patient y_BN_patient.cls D cA) (hml : c.maxLocals = 4) {stE : XS} (kx : ∀ (H1 : Heap) (locs1 : List Loc) (ls1 : Array Slot), xP cw D cA b stE H1 → va_S (xA cw b) s.heap H1 locs1 → lv_has ls1 4 [(0, .ref (b + 0)), (1, .int a1), (2, .int a2)] → W p l e { frames := 1, cells := 0, slots := 0, locals := 20 } s m ([.ref (b + 0), .int a1, .int a2] : List Value).toArray below meth c H1 locs1 0 0 Q (F0 m 67 ls1 [])) : ∀ (n : Nat) (st : XS) (x3 : Int32) (H : Heap) (locs : List Loc) (ls : Array Slot), lpi 8 n x3 → lv_has ls 4 [(0, .ref (b + 0)), (1, .int a1), (2, .int a2), (3, .int x3)] → xP cw D cA b st H → va_S (xA cw b) s.heap H locs → g_BN_patient_32 n st a1 a2 x3 = stE → W p l e { frames := 1, cells := 0, slots := 0, locals := 20 } s m ([.ref (b + 0), .int a1, .int a2] : List Value).toArray below meth c H locs 0 0 Q (F0 m 32 ls []) := by
  intro n
  induction n with
  | zero =>
    intro st x3 H locs ls hx
    exact absurd hx (fun h => lpi_no h)
  | succ n ih =>
    intro st x3 H locs ls hx hl hP hS hg
    refine lv_iload_n C.1 C.2.1 d_BN_patient_32 rfl (lv_at hl 3 rfl) ?_
    refine lv_bipush (v := 8) C.1 C.2.1 d_BN_patient_33 (by decide) ?_
    refine lv_icmp_ge (tgt := 67) C.1 C.2.1 d_BN_patient_35 (by decide) (fun h1 => ?_) (fun h1 => ?_)
    · rw [g_BN_patient_32, if_pos h1] at hg
      subst hg
      exact kx _ _ ls hP hS (lv_sub hl [0, 1, 2] rfl)
    · refine lv_aload_n C.1 C.2.1 d_BN_patient_38 rfl (lv_at hl 0 rfl) ?_
      refine xget C hP o_BN rfl c_BN (k := 0) (v := .ref (b + 1)) (by decide) wg_378 rfl d_BN_patient_39 ?_
      refine lv_iload_n C.1 C.2.1 d_BN_patient_42 rfl (lv_at hl 3 rfl) ?_
      refine xaald C hP o_da rfl (E := R_DE) rfl (v := b + (73 + 20 * x3.toNatClampNeg)) (lpi_ix hx (lpi_c hx h1 i32_8) (by decide)) rfl d_BN_patient_43 ?_
      refine xgetN C hP (o_DE (xin_lt (lpi_ix hx (lpi_c hx h1 i32_8) (by decide)))) rfl c_DE (k := 3) (v := .int (st 8 3 x3.toNatClampNeg)) (by decide) wn_287 rfl d_BN_patient_44 ?_
      refine lv_iload_n C.1 C.2.1 d_BN_patient_47 rfl (lv_at hl 1 rfl) ?_
      refine lv_icmp_ne (tgt := 61) C.1 C.2.1 d_BN_patient_48 (by decide) (fun h2 => ?_) (fun h2 => ?_)
      · refine lv_iinc (v := (x3 + 1)) C.1 C.2.1 d_BN_patient_61 hl (k := 3) rfl rfl (by decide) rfl (fun ls hl => ?_)
        have hl : lv_has ls 4 [(3, .int (x3 + 1)), (0, .ref (b + 0)), (1, .int a1), (2, .int a2)] := hl
        refine lv_goto (tgt := 32) C.1 C.2.1 d_BN_patient_64 (by decide) ?_
        rw [g_BN_patient_32, if_neg h1, if_neg h2] at hg
        exact ih _ _ _ _ ls (lpi_nx hx (lpi_c hx h1 i32_8) (by decide)) (lv_sub hl [1, 2, 3, 0] rfl) hP hS hg
      · refine lv_aload_n C.1 C.2.1 d_BN_patient_51 rfl (lv_at hl 0 rfl) ?_
        refine xget C hP o_BN rfl c_BN (k := 0) (v := .ref (b + 1)) (by decide) wg_378 rfl d_BN_patient_52 ?_
        refine lv_iload_n C.1 C.2.1 d_BN_patient_55 rfl (lv_at hl 3 rfl) ?_
        refine xaald C hP o_da rfl (E := R_DE) rfl (v := b + (73 + 20 * x3.toNatClampNeg)) (lpi_ix hx (lpi_c hx h1 i32_8) (by decide)) rfl d_BN_patient_56 ?_
        refine lv_iconst (v := 0) C.1 C.2.1 d_BN_patient_57 (by decide) ?_
        refine xputN cw_inj C hP hS (o_DE (xin_lt (lpi_ix hx (lpi_c hx h1 i32_8) (by decide)))) rfl c_DE (k := 6) (x := 0) (by decide) wn_293 rfl rfl rfl rfl d_BN_patient_58 (fun H locs hP hS => ?_)
        refine lv_iinc (v := (x3 + 1)) C.1 C.2.1 d_BN_patient_61 hl (k := 3) rfl rfl (by decide) rfl (fun ls hl => ?_)
        have hl : lv_has ls 4 [(3, .int (x3 + 1)), (0, .ref (b + 0)), (1, .int a1), (2, .int a2)] := hl
        refine lv_goto (tgt := 32) C.1 C.2.1 d_BN_patient_64 (by decide) ?_
        rw [g_BN_patient_32, if_neg h1, if_pos h2] at hg
        exact ih _ _ _ _ ls (lpi_nx hx (lpi_c hx h1 i32_8) (by decide)) (lv_sub hl [1, 2, 3, 0] rfl) hP hS hg
theorem fr_BN_patient_32 {a' k' i' : Nat} (h : (a', k') ∉ ([(8, 6)] : List (Nat × Nat))) (h2 : a' ∉ ([] : List Nat)) : ∀ (n : Nat) (st : XS) (a1 : Int32) (a2 : Int32) (x3 : Int32), (g_BN_patient_32 n st a1 a2 x3) a' k' i' = st a' k' i' := by
  intro n
  induction n with
  | zero => intro st a1 a2 x3; rfl
  | succ n ih =>
    intro st a1 a2 x3
    unfold g_BN_patient_32
    repeat' split
    all_goals (try dsimp only)
    all_goals (repeat (first | with_reducible rfl | rw [xu_f (fun e => h (by rw [e]; decide))] | rw [ih]))
theorem pg_BN_patient_32 (n : Nat) (st : XS) (a1 : Int32) (a2 : Int32) (x3 : Int32) (h : pok st) : pok (g_BN_patient_32 n st a1 a2 x3) := pok_of h (fr_BN_patient_32 (by decide) (by decide) _ _ _ _ _ ) (fun _ => fr_BN_patient_32 (by simp) (by decide) _ _ _ _ _ )
def f_BN_patient (st : XS) (a1 : Int32) (a2 : Int32) : XS × Int32 :=
  if (f_BN_isBed a1) = 0 then (st, 0)
  else if a2 < 0 then (st, 0)
  else if (st 2 a1.toNatClampNeg 0) = a2 then (st, 0)
  else ((g_BN_patient_32 9 (xu st 2 a1.toNatClampNeg 0 a2) a1 a2 0), 1)
set_option maxRecDepth 100000 in
set_option maxHeartbeats 4000000 in
theorem z_BN_patient {st : XS} {a1 : Int32} {a2 : Int32} : bz (f_BN_patient st a1 a2).2 = (f_BN_patient st a1 a2).2 := by
  unfold f_BN_patient
  repeat' split
  all_goals first | with_reducible exact bz_0 | with_reducible exact bz_1 | with_reducible exact bz_bz _ | with_reducible exact z_BN_isBed
set_option maxRecDepth 100000 in
set_option maxHeartbeats 4000000 in
theorem fr_BN_patient {st : XS} {a1 : Int32} {a2 : Int32} {a' k' i' : Nat} (h : (a', k') ∉ ([(8, 6)] : List (Nat × Nat))) (h2 : a' ∉ ([2] : List Nat)) : (f_BN_patient st a1 a2).1 a' k' i' = st a' k' i' := by
  unfold f_BN_patient
  repeat' split
  all_goals (try dsimp only)
  all_goals (repeat (first | with_reducible rfl | rw [xu_f (fun e => h (by rw [e]; decide))] | rw [xu_a (fun e => h2 (by rw [e]; decide))] | rw [fr_BN_patient_32 (fun q => h ((by decide : ∀ z ∈ ([(8, 6)] : List (Nat × Nat)), z ∈ ([(8, 6)] : List (Nat × Nat))) _ q)) (fun q => h2 ((by decide : ∀ z ∈ ([] : List Nat), z ∈ ([2] : List Nat)) _ q))]))
theorem p_BN_patient {st : XS} {a1 : Int32} {a2 : Int32} (h : pok st) : pok (f_BN_patient st a1 a2).1 := pok_of h (fr_BN_patient (by decide) (by decide)) (fun _ => fr_BN_patient (by simp) (by decide))
set_option maxRecDepth 100000 in
set_option maxHeartbeats 4000000 in
theorem k_BN_patient (l : Launch) (D : va_G) (cA : Nat → ClassId) (b : Nat) (st : XS) (a1 : Int32) (a2 : Int32) : xMi cw D cA b l y_BN_patient (Cond.code y_BN_patient b_BN_patient 4 (some .boolean)) { frames := 1, cells := 0, slots := 0, locals := 20 } st [.ref (b + 0), .int a1, .int a2] (f_BN_patient st a1 a2).2 (f_BN_patient st a1 a2).1 := by
  refine xMi_of rfl (by decide) (Nat.le_of_ble_eq_true rfl) ?_
  intro p e s m below meth c ls C hlk hr hml hl hP hS
  have hl : lv_has ls 4 [(0, .ref (b + 0)), (1, .int a1), (2, .int a2)] := hl
  refine lv_iload_n C.1 C.2.1 d_BN_patient_0 rfl (lv_at hl 1 rfl) ?_
  refine xcSi (rest := []) C hml hl.1 (k_BN_isBed l D cA b st a1) q_BN_isBed rfl rfl wg_413 wg_414 ⟨Nat.le_of_ble_eq_true rfl, Nat.le_of_ble_eq_true rfl⟩ hP hS rfl (Nat.le_of_ble_eq_true rfl) d_BN_patient_1 rfl (fun H locs hP hS => ?_)
  refine lv_if_eq (tgt := 21) C.1 C.2.1 d_BN_patient_4 (by decide) (fun h1 => ?_) (fun h1 => ?_)
  · refine lv_iconst (v := 0) C.1 C.2.1 d_BN_patient_21 (by decide) ?_
    exact xrz C hlk hr bz_0 hP hS d_BN_patient_22 ⟨by rw [f_BN_patient, if_pos h1], by rw [f_BN_patient, if_pos h1]⟩
  · refine lv_iload_n C.1 C.2.1 d_BN_patient_7 rfl (lv_at hl 2 rfl) ?_
    refine lv_if_lt (tgt := 21) C.1 C.2.1 d_BN_patient_8 (by decide) (fun h2 => ?_) (fun h2 => ?_)
    · refine lv_iconst (v := 0) C.1 C.2.1 d_BN_patient_21 (by decide) ?_
      exact xrz C hlk hr bz_0 hP hS d_BN_patient_22 ⟨by rw [f_BN_patient, if_neg h1, if_pos h2], by rw [f_BN_patient, if_neg h1, if_pos h2]⟩
    · refine lv_aload_n C.1 C.2.1 d_BN_patient_11 rfl (lv_at hl 0 rfl) ?_
      refine xget C hP o_BN rfl c_BN (k := 1) (v := .ref (b + 2)) (by decide) wg_379 rfl d_BN_patient_12 ?_
      refine lv_iload_n C.1 C.2.1 d_BN_patient_15 rfl (lv_at hl 1 rfl) ?_
      refine xiald C hP o_pa rfl (v := (st 2 a1.toNatClampNeg 0)) (vd_isBed h1) rfl d_BN_patient_16 ?_
      refine lv_iload_n C.1 C.2.1 d_BN_patient_17 rfl (lv_at hl 2 rfl) ?_
      refine lv_icmp_ne (tgt := 23) C.1 C.2.1 d_BN_patient_18 (by decide) (fun h3 => ?_) (fun h3 => ?_)
      · refine lv_aload_n C.1 C.2.1 d_BN_patient_23 rfl (lv_at hl 0 rfl) ?_
        refine xget C hP o_BN rfl c_BN (k := 1) (v := .ref (b + 2)) (by decide) wg_379 rfl d_BN_patient_24 ?_
        refine lv_iload_n C.1 C.2.1 d_BN_patient_27 rfl (lv_at hl 1 rfl) ?_
        refine lv_iload_n C.1 C.2.1 d_BN_patient_28 rfl (lv_at hl 2 rfl) ?_
        refine xiast cw_inj C hP hS o_pa rfl (vd_isBed h1) rfl d_BN_patient_29 (fun H locs hP hS => ?_)
        refine lv_iconst (v := 0) C.1 C.2.1 d_BN_patient_30 (by decide) ?_
        refine lv_istore_n C.1 C.2.1 d_BN_patient_31 rfl hl (by decide) rfl (fun ls hl => ?_)
        have hl : lv_has ls 4 [(3, .int 0), (0, .ref (b + 0)), (1, .int a1), (2, .int a2)] := hl
        refine w_BN_patient_32 l D cA b a1 a2 C hml  (fun H locs ls hP hS hl => ?_) 9 (xu st 2 a1.toNatClampNeg 0 a2) 0 _ _ ls lpi_st (lv_sub hl [1, 2, 3, 0] rfl) hP hS rfl
        have hl : lv_has ls 4 [(0, .ref (b + 0)), (1, .int a1), (2, .int a2)] := hl
        refine lv_iconst (v := 1) C.1 C.2.1 d_BN_patient_67 (by decide) ?_
        exact xrz C hlk hr bz_1 hP hS d_BN_patient_68 ⟨by rw [f_BN_patient, if_neg h1, if_neg h2, if_neg h3], by rw [f_BN_patient, if_neg h1, if_neg h2, if_neg h3]⟩
      · refine lv_iconst (v := 0) C.1 C.2.1 d_BN_patient_21 (by decide) ?_
        exact xrz C hlk hr bz_0 hP hS d_BN_patient_22 ⟨by rw [f_BN_patient, if_neg h1, if_neg h2, if_pos h3], by rw [f_BN_patient, if_neg h1, if_neg h2, if_pos h3]⟩
