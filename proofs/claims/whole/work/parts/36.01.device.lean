def g_MO_device_63 : Nat → XS → Int32 → Int32 → Int32 → XS
  | 0, st, a1, a2, x3 => st
  | n + 1, st, a1, a2, x3 =>
    if ((4 * a1) + 4) ≤ x3 then st
    else (g_MO_device_63 n (xu st 20 x3.toNatClampNeg 0 0) a1 a2 (x3 + 1))
set_option maxRecDepth 100000 in
set_option maxHeartbeats 4000000 in
theorem w_MO_device_63 (l : Launch) (D : va_G) (cA : Nat → ClassId) (b : Nat) (a1 : Int32) (a2 : Int32) (hd1 : vp_in a1 8) {p : Program} {e : Env} {s : State} {m : MethodId} {below : List Frame} {meth : Method} {c : Code} {Q : State → Prop} (C : xCx p s m ([.ref (b + 0), .int a1, .int a2] : List Value).toArray c b_MO_device y_MO_device.cls D cA) (hml : c.maxLocals = 4) {stE : XS} (kx : ∀ (H1 : Heap) (locs1 : List Loc) (ls1 : Array Slot), xP mw D cA b stE H1 → va_S (xA mw b) s.heap H1 locs1 → lv_has ls1 4 [(0, .ref (b + 0)), (1, .int a1), (2, .int a2)] → W p l e { frames := 1, cells := 0, slots := 0, locals := 20 } s m ([.ref (b + 0), .int a1, .int a2] : List Value).toArray below meth c H1 locs1 0 0 Q (F0 m 85 ls1 [])) : ∀ (n : Nat) (st : XS) (x3 : Int32) (H : Heap) (locs : List Loc) (ls : Array Slot), lpi 32 n x3 → lv_has ls 4 [(0, .ref (b + 0)), (1, .int a1), (2, .int a2), (3, .int x3)] → xP mw D cA b st H → va_S (xA mw b) s.heap H locs → g_MO_device_63 n st a1 a2 x3 = stE → W p l e { frames := 1, cells := 0, slots := 0, locals := 20 } s m ([.ref (b + 0), .int a1, .int a2] : List Value).toArray below meth c H locs 0 0 Q (F0 m 63 ls []) := by
  intro n
  induction n with
  | zero =>
    intro st x3 H locs ls hx
    exact absurd hx (fun h => lpi_no h)
  | succ n ih =>
    intro st x3 H locs ls hx hl hP hS hg
    refine lv_iload_n C.1 C.2.1 d_MO_device_63 rfl (lv_at hl 3 rfl) ?_
    refine lv_iconst (v := 4) C.1 C.2.1 d_MO_device_64 (by decide) ?_
    refine lv_iload_n C.1 C.2.1 d_MO_device_65 rfl (lv_at hl 1 rfl) ?_
    refine lv_imul C.1 C.2.1 d_MO_device_66 ?_
    refine lv_iconst (v := 4) C.1 C.2.1 d_MO_device_67 (by decide) ?_
    refine lv_iadd C.1 C.2.1 d_MO_device_68 ?_
    refine lv_icmp_ge (tgt := 85) C.1 C.2.1 d_MO_device_69 (by decide) (fun h1 => ?_) (fun h1 => ?_)
    · rw [g_MO_device_63, if_pos h1] at hg
      subst hg
      exact kx _ _ ls hP hS (lv_sub hl [0, 1, 2] rfl)
    · refine lv_aload_n C.1 C.2.1 d_MO_device_72 rfl (lv_at hl 0 rfl) ?_
      refine xget C hP o_MO rfl c_MO (k := 23) (v := .ref (b + 20)) (by decide) wg_900 rfl d_MO_device_73 ?_
      refine lv_iload_n C.1 C.2.1 d_MO_device_76 rfl (lv_at hl 3 rfl) ?_
      refine lv_iconst (v := 0) C.1 C.2.1 d_MO_device_77 (by decide) ?_
      refine xiast mw_inj C hP hS om_20 rfl (lpi_ix hx (lpi_c hx h1 (q4 hd1)) (by decide)) rfl d_MO_device_78 (fun H locs hP hS => ?_)
      refine lv_iinc (v := (x3 + 1)) C.1 C.2.1 d_MO_device_79 hl (k := 3) rfl rfl (by decide) rfl (fun ls hl => ?_)
      have hl : lv_has ls 4 [(3, .int (x3 + 1)), (0, .ref (b + 0)), (1, .int a1), (2, .int a2)] := hl
      refine lv_goto (tgt := 63) C.1 C.2.1 d_MO_device_82 (by decide) ?_
      rw [g_MO_device_63, if_neg h1] at hg
      exact ih _ _ _ _ ls (lpi_nx hx (lpi_c hx h1 (q4 hd1)) (by decide)) (lv_sub hl [1, 2, 3, 0] rfl) hP hS hg
theorem fr_MO_device_63 {a' k' i' : Nat} (h : (a', k') ∉ ([] : List (Nat × Nat))) (h2 : a' ∉ ([20] : List Nat)) : ∀ (n : Nat) (st : XS) (a1 : Int32) (a2 : Int32) (x3 : Int32), (g_MO_device_63 n st a1 a2 x3) a' k' i' = st a' k' i' := by
  intro n
  induction n with
  | zero => intro st a1 a2 x3; rfl
  | succ n ih =>
    intro st a1 a2 x3
    unfold g_MO_device_63
    repeat' split
    all_goals (try dsimp only)
    all_goals (repeat (first | with_reducible rfl | rw [xu_f (fun e => h (by rw [e]; decide))] | rw [xu_a (fun e => h2 (by rw [e]; decide))] | rw [ih]))
theorem pg_MO_device_63 (n : Nat) (st : XS) (a1 : Int32) (a2 : Int32) (x3 : Int32) (h : qok st) : qok (g_MO_device_63 n st a1 a2 x3) := qok_of h (fr_MO_device_63 (by decide) (by decide) _ _ _ _ _ )
def f_MO_device (st : XS) (a1 : Int32) (a2 : Int32) : XS × Int32 :=
  if (f_MO_isDevice a1) = 0 then ((xu st 0 0 0 0), 0)
  else if (f_MO_isBed a2) = 0 then ((xu st 0 0 0 0), 0)
  else if (st 2 a1.toNatClampNeg 0) = 2 then ((xu st 0 0 0 0), 0)
  else ((g_MO_device_63 33 (xu (xu (xu (xu (xu st 0 0 0 0) 2 a1.toNatClampNeg 0 1) 3 a1.toNatClampNeg 0 a2) 5 a1.toNatClampNeg 0 0) 8 a1.toNatClampNeg 0 0) a1 a2 (4 * a1)), 1)
set_option maxRecDepth 100000 in
set_option maxHeartbeats 4000000 in
theorem z_MO_device {st : XS} {a1 : Int32} {a2 : Int32} : bz (f_MO_device st a1 a2).2 = (f_MO_device st a1 a2).2 := by
  unfold f_MO_device
  repeat' split
  all_goals first | with_reducible exact bz_0 | with_reducible exact bz_1 | with_reducible exact bz_bz _ | with_reducible exact z_MO_isBed | with_reducible exact z_MO_isDevice
set_option maxRecDepth 100000 in
set_option maxHeartbeats 4000000 in
theorem fr_MO_device {st : XS} {a1 : Int32} {a2 : Int32} {a' k' i' : Nat} (h : (a', k') ∉ ([(0, 0)] : List (Nat × Nat))) (h2 : a' ∉ ([2, 3, 5, 8, 20] : List Nat)) : (f_MO_device st a1 a2).1 a' k' i' = st a' k' i' := by
  unfold f_MO_device
  repeat' split
  all_goals (try dsimp only)
  all_goals (repeat (first | with_reducible rfl | rw [xu_f (fun e => h (by rw [e]; decide))] | rw [xu_a (fun e => h2 (by rw [e]; decide))] | rw [fr_MO_device_63 (fun q => h ((by decide : ∀ z ∈ ([] : List (Nat × Nat)), z ∈ ([(0, 0)] : List (Nat × Nat))) _ q)) (fun q => h2 ((by decide : ∀ z ∈ ([20] : List Nat), z ∈ ([2, 3, 5, 8, 20] : List Nat)) _ q))]))
theorem p_MO_device {st : XS} {a1 : Int32} {a2 : Int32} (h : qok st) : qok (f_MO_device st a1 a2).1 := qok_of h (fr_MO_device (by decide) (by decide))
set_option maxRecDepth 100000 in
set_option maxHeartbeats 4000000 in
theorem k_MO_device (l : Launch) (D : va_G) (cA : Nat → ClassId) (b : Nat) (st : XS) (a1 : Int32) (a2 : Int32) : xMi mw D cA b l y_MO_device (Cond.code y_MO_device b_MO_device 4 (some .boolean)) { frames := 1, cells := 0, slots := 0, locals := 20 } st [.ref (b + 0), .int a1, .int a2] (f_MO_device st a1 a2).2 (f_MO_device st a1 a2).1 := by
  refine xMi_of rfl (by decide) (Nat.le_of_ble_eq_true rfl) ?_
  intro p e s m below meth c ls C hlk hr hml hl hP hS
  have hl : lv_has ls 4 [(0, .ref (b + 0)), (1, .int a1), (2, .int a2)] := hl
  refine lv_aload_n C.1 C.2.1 d_MO_device_0 rfl (lv_at hl 0 rfl) ?_
  refine lv_iconst (v := 0) C.1 C.2.1 d_MO_device_1 (by decide) ?_
  refine xput mw_inj C hP hS o_MO rfl c_MO (k := 0) (x := 0) (by decide) wg_877 rfl rfl rfl rfl d_MO_device_2 (fun H locs hP hS => ?_)
  refine lv_iload_n C.1 C.2.1 d_MO_device_5 rfl (lv_at hl 1 rfl) ?_
  refine xcSi (rest := []) C hml hl.1 (k_MO_isDevice l D cA b (xu st 0 0 0 0) a1) q_MO_isDevice rfl rfl wg_1073 wg_1074 ⟨Nat.le_of_ble_eq_true rfl, Nat.le_of_ble_eq_true rfl⟩ hP hS rfl (Nat.le_of_ble_eq_true rfl) d_MO_device_6 rfl (fun H locs hP hS => ?_)
  refine lv_if_eq (tgt := 29) C.1 C.2.1 d_MO_device_9 (by decide) (fun h1 => ?_) (fun h1 => ?_)
  · refine lv_iconst (v := 0) C.1 C.2.1 d_MO_device_29 (by decide) ?_
    exact xrz C hlk hr bz_0 hP hS d_MO_device_30 ⟨by rw [f_MO_device, if_pos h1], by rw [f_MO_device, if_pos h1]⟩
  · refine lv_iload_n C.1 C.2.1 d_MO_device_12 rfl (lv_at hl 2 rfl) ?_
    refine xcSi (rest := []) C hml hl.1 (k_MO_isBed l D cA b (xu st 0 0 0 0) a2) q_MO_isBed rfl rfl wg_1076 wg_1077 ⟨Nat.le_of_ble_eq_true rfl, Nat.le_of_ble_eq_true rfl⟩ hP hS rfl (Nat.le_of_ble_eq_true rfl) d_MO_device_13 rfl (fun H locs hP hS => ?_)
    refine lv_if_eq (tgt := 29) C.1 C.2.1 d_MO_device_16 (by decide) (fun h2 => ?_) (fun h2 => ?_)
    · refine lv_iconst (v := 0) C.1 C.2.1 d_MO_device_29 (by decide) ?_
      exact xrz C hlk hr bz_0 hP hS d_MO_device_30 ⟨by rw [f_MO_device, if_neg h1, if_pos h2], by rw [f_MO_device, if_neg h1, if_pos h2]⟩
    · refine lv_aload_n C.1 C.2.1 d_MO_device_19 rfl (lv_at hl 0 rfl) ?_
      refine xget C hP o_MO rfl c_MO (k := 5) (v := .ref (b + 2)) (by decide) wg_882 rfl d_MO_device_20 ?_
      refine lv_iload_n C.1 C.2.1 d_MO_device_23 rfl (lv_at hl 1 rfl) ?_
      refine xiald C hP om_2 rfl (v := (st 2 a1.toNatClampNeg 0)) (vm_isDevice h1) (congrArg Value.int (xu_a (by decide))) d_MO_device_24 ?_
      refine lv_iconst (v := 2) C.1 C.2.1 d_MO_device_25 (by decide) ?_
      refine lv_icmp_ne (tgt := 31) C.1 C.2.1 d_MO_device_26 (by decide) (fun h3 => ?_) (fun h3 => ?_)
      · refine lv_aload_n C.1 C.2.1 d_MO_device_31 rfl (lv_at hl 0 rfl) ?_
        refine xget C hP o_MO rfl c_MO (k := 5) (v := .ref (b + 2)) (by decide) wg_882 rfl d_MO_device_32 ?_
        refine lv_iload_n C.1 C.2.1 d_MO_device_35 rfl (lv_at hl 1 rfl) ?_
        refine lv_iconst (v := 1) C.1 C.2.1 d_MO_device_36 (by decide) ?_
        refine xiast mw_inj C hP hS om_2 rfl (vm_isDevice h1) rfl d_MO_device_37 (fun H locs hP hS => ?_)
        refine lv_aload_n C.1 C.2.1 d_MO_device_38 rfl (lv_at hl 0 rfl) ?_
        refine xget C hP o_MO rfl c_MO (k := 6) (v := .ref (b + 3)) (by decide) wg_883 rfl d_MO_device_39 ?_
        refine lv_iload_n C.1 C.2.1 d_MO_device_42 rfl (lv_at hl 1 rfl) ?_
        refine lv_iload_n C.1 C.2.1 d_MO_device_43 rfl (lv_at hl 2 rfl) ?_
        refine xiast mw_inj C hP hS om_3 rfl (vm_isDevice h1) rfl d_MO_device_44 (fun H locs hP hS => ?_)
        refine lv_aload_n C.1 C.2.1 d_MO_device_45 rfl (lv_at hl 0 rfl) ?_
        refine xget C hP o_MO rfl c_MO (k := 8) (v := .ref (b + 5)) (by decide) wg_885 rfl d_MO_device_46 ?_
        refine lv_iload_n C.1 C.2.1 d_MO_device_49 rfl (lv_at hl 1 rfl) ?_
        refine lv_iconst (v := 0) C.1 C.2.1 d_MO_device_50 (by decide) ?_
        refine xiast mw_inj C hP hS om_5 rfl (vm_isDevice h1) rfl d_MO_device_51 (fun H locs hP hS => ?_)
        refine lv_aload_n C.1 C.2.1 d_MO_device_52 rfl (lv_at hl 0 rfl) ?_
        refine xget C hP o_MO rfl c_MO (k := 11) (v := .ref (b + 8)) (by decide) wg_888 rfl d_MO_device_53 ?_
        refine lv_iload_n C.1 C.2.1 d_MO_device_56 rfl (lv_at hl 1 rfl) ?_
        refine lv_iconst (v := 0) C.1 C.2.1 d_MO_device_57 (by decide) ?_
        refine xzast mw_inj C hP hS om_8 rfl (vm_isDevice h1) rfl d_MO_device_58 (fun H locs hP hS => ?_)
        refine lv_iconst (v := 4) C.1 C.2.1 d_MO_device_59 (by decide) ?_
        refine lv_iload_n C.1 C.2.1 d_MO_device_60 rfl (lv_at hl 1 rfl) ?_
        refine lv_imul C.1 C.2.1 d_MO_device_61 ?_
        refine lv_istore_n C.1 C.2.1 d_MO_device_62 rfl hl (by decide) rfl (fun ls hl => ?_)
        have hl : lv_has ls 4 [(3, .int (4 * a1)), (0, .ref (b + 0)), (1, .int a1), (2, .int a2)] := hl
        refine w_MO_device_63 l D cA b a1 a2 (vm_isDevice h1) C hml  (fun H locs ls hP hS hl => ?_) 33 (xu (xu (xu (xu (xu st 0 0 0 0) 2 a1.toNatClampNeg 0 1) 3 a1.toNatClampNeg 0 a2) 5 a1.toNatClampNeg 0 0) 8 a1.toNatClampNeg 0 0) (4 * a1) _ _ ls (lp4_st (vm_isDevice h1)) (lv_sub hl [1, 2, 3, 0] rfl) hP hS rfl
        have hl : lv_has ls 4 [(0, .ref (b + 0)), (1, .int a1), (2, .int a2)] := hl
        refine lv_iconst (v := 1) C.1 C.2.1 d_MO_device_85 (by decide) ?_
        exact xrz C hlk hr bz_1 hP hS d_MO_device_86 ⟨by rw [f_MO_device, if_neg h1, if_neg h2, if_neg h3], by rw [f_MO_device, if_neg h1, if_neg h2, if_neg h3]⟩
      · refine lv_iconst (v := 0) C.1 C.2.1 d_MO_device_29 (by decide) ?_
        exact xrz C hlk hr bz_0 hP hS d_MO_device_30 ⟨by rw [f_MO_device, if_neg h1, if_neg h2, if_pos h3], by rw [f_MO_device, if_neg h1, if_neg h2, if_pos h3]⟩
