def f_BN_sample (st : XS) (a1 : Int32) (a2 : Int32) (a3 : Int32) : XS × Int32 :=
  if (f_BN_isSealed st a1) = 0 then (st, 0)
  else if (st 8 6 a1.toNatClampNeg) = 0 then (st, 0)
  else if (f_DE_hasChannel st a1.toNatClampNeg a2) = 0 then (st, 0)
  else if (f_RA_fits st (20 * a1.toNatClampNeg + 4 * a2.toNatClampNeg) a3) = 0 then (st, 0)
  else ((f_BN_settleAlarms (f_BN_sendValue (f_CH_measure st (20 * a1.toNatClampNeg + 4 * a2.toNatClampNeg) a3 (st 0 8 0)) a1 a2)), 1)
set_option maxRecDepth 100000 in
set_option maxHeartbeats 4000000 in
theorem z_BN_sample {st : XS} {a1 : Int32} {a2 : Int32} {a3 : Int32} : bz (f_BN_sample st a1 a2 a3).2 = (f_BN_sample st a1 a2 a3).2 := by
  unfold f_BN_sample
  repeat' split
  all_goals first | with_reducible exact bz_0 | with_reducible exact bz_1 | with_reducible exact bz_bz _ | with_reducible exact z_BN_isSealed | with_reducible exact z_DE_hasChannel | with_reducible exact z_RA_fits
set_option maxRecDepth 100000 in
set_option maxHeartbeats 4000000 in
theorem fr_BN_sample {st : XS} {a1 : Int32} {a2 : Int32} {a3 : Int32} {a' k' i' : Nat} (h : (a', k') ∉ ([(5, 1), (5, 2), (5, 3), (7, 0), (7, 1), (7, 2), (7, 3), (7, 4), (7, 5), (7, 6), (7, 7), (12, 4), (12, 5), (12, 6), (12, 7), (12, 8), (13, 4), (13, 5), (13, 7), (13, 8), (13, 9)] : List (Nat × Nat))) (h2 : a' ∉ ([] : List Nat)) : (f_BN_sample st a1 a2 a3).1 a' k' i' = st a' k' i' := by
  unfold f_BN_sample
  repeat' split
  all_goals (try dsimp only)
  all_goals (repeat (first | with_reducible rfl | rw [xu_f (fun e => h (by rw [e]; decide))] | rw [fr_BN_sendValue (fun q => h ((by decide : ∀ z ∈ ([(5, 1), (5, 2), (5, 3), (7, 0), (7, 1), (7, 2), (7, 3), (7, 4), (7, 5), (7, 6), (7, 7), (12, 8)] : List (Nat × Nat)), z ∈ ([(5, 1), (5, 2), (5, 3), (7, 0), (7, 1), (7, 2), (7, 3), (7, 4), (7, 5), (7, 6), (7, 7), (12, 4), (12, 5), (12, 6), (12, 7), (12, 8), (13, 4), (13, 5), (13, 7), (13, 8), (13, 9)] : List (Nat × Nat))) _ q)) (fun q => h2 ((by decide : ∀ z ∈ ([] : List Nat), z ∈ ([] : List Nat)) _ q))] | rw [fr_BN_settleAlarms (fun q => h ((by decide : ∀ z ∈ ([(5, 1), (5, 2), (5, 3), (7, 0), (7, 1), (7, 2), (7, 3), (7, 4), (7, 5), (7, 6), (7, 7), (13, 7), (13, 8), (13, 9)] : List (Nat × Nat)), z ∈ ([(5, 1), (5, 2), (5, 3), (7, 0), (7, 1), (7, 2), (7, 3), (7, 4), (7, 5), (7, 6), (7, 7), (12, 4), (12, 5), (12, 6), (12, 7), (12, 8), (13, 4), (13, 5), (13, 7), (13, 8), (13, 9)] : List (Nat × Nat))) _ q)) (fun q => h2 ((by decide : ∀ z ∈ ([] : List Nat), z ∈ ([] : List Nat)) _ q))] | rw [fr_CH_measure (fun q => h ((by decide : ∀ z ∈ ([(12, 4), (12, 5), (12, 6), (12, 7), (13, 4), (13, 5)] : List (Nat × Nat)), z ∈ ([(5, 1), (5, 2), (5, 3), (7, 0), (7, 1), (7, 2), (7, 3), (7, 4), (7, 5), (7, 6), (7, 7), (12, 4), (12, 5), (12, 6), (12, 7), (12, 8), (13, 4), (13, 5), (13, 7), (13, 8), (13, 9)] : List (Nat × Nat))) _ q)) (fun q => h2 ((by decide : ∀ z ∈ ([] : List Nat), z ∈ ([] : List Nat)) _ q))]))
theorem p_BN_sample {st : XS} {a1 : Int32} {a2 : Int32} {a3 : Int32} (h : pok st) : pok (f_BN_sample st a1 a2 a3).1 := by
  unfold f_BN_sample
  repeat' split
  all_goals (try dsimp only)
  all_goals (repeat (first | with_reducible assumption | with_reducible refine p_BN_sendValue ?_ | with_reducible refine p_BN_settleAlarms ?_ | with_reducible refine p_CH_measure ?_ | with_reducible refine pok_xu ?_ ?_ ?_ | with_reducible refine pok_x5 ?_ ?_ | decide))
set_option maxRecDepth 100000 in
set_option maxHeartbeats 4000000 in
theorem k_BN_sample (l : Launch) (D : va_G) (cA : Nat → ClassId) (b : Nat) (st : XS) (a1 : Int32) (a2 : Int32) (a3 : Int32) (hp : pok st) (ho : dok st) : xMi cw D cA b l y_BN_sample (Cond.code y_BN_sample b_BN_sample 5 (some .boolean)) { frames := 3, cells := 0, slots := 0, locals := 75 } st [.ref (b + 0), .int a1, .int a2, .int a3] (f_BN_sample st a1 a2 a3).2 (f_BN_sample st a1 a2 a3).1 := by
  refine xMi_of rfl (by decide) (Nat.le_of_ble_eq_true rfl) ?_
  intro p e s m below meth c ls C hlk hr hml hl hP hS
  have hl : lv_has ls 5 [(0, .ref (b + 0)), (1, .int a1), (2, .int a2), (3, .int a3)] := hl
  refine lv_aload_n C.1 C.2.1 d_BN_sample_0 rfl (lv_at hl 0 rfl) ?_
  refine lv_iload_n C.1 C.2.1 d_BN_sample_1 rfl (lv_at hl 1 rfl) ?_
  refine xcVi (rest := []) C hml hl.1 (k_BN_isSealed l D cA b st a1) q_BN_isSealed rfl rfl wg_467 wg_469 ws_6 ⟨Nat.le_of_ble_eq_true rfl, Nat.le_of_ble_eq_true rfl⟩ hP hS o_BN rfl c_BN rfl (Nat.le_of_ble_eq_true rfl) d_BN_sample_2 rfl (fun H locs hP hS => ?_)
  refine lv_if_eq (tgt := 33) C.1 C.2.1 d_BN_sample_5 (by decide) (fun h1 => ?_) (fun h1 => ?_)
  · refine lv_iconst (v := 0) C.1 C.2.1 d_BN_sample_33 (by decide) ?_
    exact xrz C hlk hr bz_0 hP hS d_BN_sample_34 ⟨by rw [f_BN_sample, if_pos h1], by rw [f_BN_sample, if_pos h1]⟩
  · refine lv_aload_n C.1 C.2.1 d_BN_sample_8 rfl (lv_at hl 0 rfl) ?_
    refine xget C hP o_BN rfl c_BN (k := 0) (v := .ref (b + 1)) (by decide) wg_378 rfl d_BN_sample_9 ?_
    refine lv_iload_n C.1 C.2.1 d_BN_sample_12 rfl (lv_at hl 1 rfl) ?_
    refine xaald C hP o_da rfl (E := R_DE) rfl (v := b + (73 + 20 * a1.toNatClampNeg)) (vd_isSealed h1) rfl d_BN_sample_13 ?_
    refine xgetN C hP (o_DE (xin_lt (vd_isSealed h1))) rfl c_DE (k := 6) (v := .int (st 8 6 a1.toNatClampNeg)) (by decide) wn_293 rfl d_BN_sample_14 ?_
    refine lv_if_eq (tgt := 33) C.1 C.2.1 d_BN_sample_17 (by decide) (fun h2 => ?_) (fun h2 => ?_)
    · refine lv_iconst (v := 0) C.1 C.2.1 d_BN_sample_33 (by decide) ?_
      exact xrz C hlk hr bz_0 hP hS d_BN_sample_34 ⟨by rw [f_BN_sample, if_neg h1, if_pos h2], by rw [f_BN_sample, if_neg h1, if_pos h2]⟩
    · refine lv_aload_n C.1 C.2.1 d_BN_sample_20 rfl (lv_at hl 0 rfl) ?_
      refine xget C hP o_BN rfl c_BN (k := 0) (v := .ref (b + 1)) (by decide) wg_378 rfl d_BN_sample_21 ?_
      refine lv_iload_n C.1 C.2.1 d_BN_sample_24 rfl (lv_at hl 1 rfl) ?_
      refine xaald C hP o_da rfl (E := R_DE) rfl (v := b + (73 + 20 * a1.toNatClampNeg)) (vd_isSealed h1) rfl d_BN_sample_25 ?_
      refine lv_iload_n C.1 C.2.1 d_BN_sample_26 rfl (lv_at hl 2 rfl) ?_
      refine xcVNi (rest := []) C hml hl.1 (k_DE_hasChannel l D cA b st a1.toNatClampNeg (xin_lt (vd_isSealed h1)) a2) q_DE_hasChannel rfl rfl wn_428 wg_430 ws_2 ⟨Nat.le_of_ble_eq_true rfl, Nat.le_of_ble_eq_true rfl⟩ hP hS (o_DE (xin_lt (vd_isSealed h1))) rfl c_DE rfl (Nat.le_of_ble_eq_true rfl) d_BN_sample_27 rfl (fun H locs hP hS => ?_)
      refine lv_if_ne (tgt := 35) C.1 C.2.1 d_BN_sample_30 (by decide) (fun h3 => ?_) (fun h3 => ?_)
      · refine lv_aload_n C.1 C.2.1 d_BN_sample_35 rfl (lv_at hl 0 rfl) ?_
        refine xget C hP o_BN rfl c_BN (k := 0) (v := .ref (b + 1)) (by decide) wg_378 rfl d_BN_sample_36 ?_
        refine lv_iload_n C.1 C.2.1 d_BN_sample_39 rfl (lv_at hl 1 rfl) ?_
        refine xaald C hP o_da rfl (E := R_DE) rfl (v := b + (73 + 20 * a1.toNatClampNeg)) (vd_isSealed h1) rfl d_BN_sample_40 ?_
        refine xgetN C hP (o_DE (xin_lt (vd_isSealed h1))) rfl c_DE (k := 0) (v := .ref (b + (74 + 20 * a1.toNatClampNeg))) (by decide) wn_281 rfl d_BN_sample_41 ?_
        refine lv_iload_n C.1 C.2.1 d_BN_sample_44 rfl (lv_at hl 2 rfl) ?_
        refine xaald C hP (o_ca (xin_lt (vd_isSealed h1))) rfl (E := R_CH) rfl (v := b + (77 + (20 * a1.toNatClampNeg + 4 * a2.toNatClampNeg))) (vd_hasChannel h3 (ho _ (xin_lt (vd_isSealed h1)))) rfl d_BN_sample_45 ?_
        refine lv_astore C.1 C.2.1 d_BN_sample_46 hl (by decide) rfl (fun ls hl => ?_)
        have hl : lv_has ls 5 [(4, .ref (b + (77 + (20 * a1.toNatClampNeg + 4 * a2.toNatClampNeg)))), (0, .ref (b + 0)), (1, .int a1), (2, .int a2), (3, .int a3)] := hl
        refine lv_aload C.1 C.2.1 d_BN_sample_48 (lv_at hl 0 rfl) ?_
        refine xgetN C hP (o_CH (cix_of (xin_lt (vd_isSealed h1)) (xin_lt (vd_hasChannel h3 (ho _ (xin_lt (vd_isSealed h1))))))) rfl c_CH (k := 0) (v := .ref (b + (78 + (20 * a1.toNatClampNeg + 4 * a2.toNatClampNeg)))) (by decide) wn_241 rfl d_BN_sample_50 ?_
        refine lv_iload_n C.1 C.2.1 d_BN_sample_53 rfl (lv_at hl 4 rfl) ?_
        refine xcVNi (rest := []) C hml hl.1 (k_RA_fits l D cA b st (78 + (20 * a1.toNatClampNeg + 4 * a2.toNatClampNeg)) (20 * a1.toNatClampNeg + 4 * a2.toNatClampNeg) (o_RC (cix_of (xin_lt (vd_isSealed h1)) (xin_lt (vd_hasChannel h3 (ho _ (xin_lt (vd_isSealed h1))))))) a3) q_RA_fits rfl rfl wn_487 wg_489 ws_8 ⟨Nat.le_of_ble_eq_true rfl, Nat.le_of_ble_eq_true rfl⟩ hP hS (o_RC (cix_of (xin_lt (vd_isSealed h1)) (xin_lt (vd_hasChannel h3 (ho _ (xin_lt (vd_isSealed h1))))))) rfl c_RA rfl (Nat.le_of_ble_eq_true rfl) d_BN_sample_54 rfl (fun H locs hP hS => ?_)
        refine lv_if_ne (tgt := 62) C.1 C.2.1 d_BN_sample_57 (by decide) (fun h4 => ?_) (fun h4 => ?_)
        · refine lv_aload C.1 C.2.1 d_BN_sample_62 (lv_at hl 0 rfl) ?_
          refine lv_iload_n C.1 C.2.1 d_BN_sample_64 rfl (lv_at hl 4 rfl) ?_
          refine lv_aload_n C.1 C.2.1 d_BN_sample_65 rfl (lv_at hl 1 rfl) ?_
          refine xget C hP o_BN rfl c_BN (k := 8) (v := .int (st 0 8 0)) (by decide) wg_386 rfl d_BN_sample_66 ?_
          refine xcVNv (rest := []) C hml hl.1 (k_CH_measure l D cA b st (20 * a1.toNatClampNeg + 4 * a2.toNatClampNeg) (cix_of (xin_lt (vd_isSealed h1)) (xin_lt (vd_hasChannel h3 (ho _ (xin_lt (vd_isSealed h1)))))) a3 (st 0 8 0)) q_CH_measure rfl rfl wn_491 wg_493 ws_9 ⟨Nat.le_of_ble_eq_true rfl, Nat.le_of_ble_eq_true rfl⟩ hP hS (o_CH (cix_of (xin_lt (vd_isSealed h1)) (xin_lt (vd_hasChannel h3 (ho _ (xin_lt (vd_isSealed h1))))))) rfl c_CH rfl (Nat.le_of_ble_eq_true rfl) d_BN_sample_69 rfl (fun H locs hP hS => ?_)
          refine lv_aload_n C.1 C.2.1 d_BN_sample_72 rfl (lv_at hl 1 rfl) ?_
          refine lv_iload_n C.1 C.2.1 d_BN_sample_73 rfl (lv_at hl 2 rfl) ?_
          refine lv_iload_n C.1 C.2.1 d_BN_sample_74 rfl (lv_at hl 3 rfl) ?_
          refine xcVv (rest := []) C hml hl.1 (k_BN_sendValue l D cA b (f_CH_measure st (20 * a1.toNatClampNeg + 4 * a2.toNatClampNeg) a3 (st 0 8 0)) a1 a2 (pok_of hp (fr_CH_measure (by decide) (by decide)) (fun _ => fr_CH_measure (by simp) (by decide))) (vd_isSealed h1) (vd_hasChannel h3 (ho _ (xin_lt (vd_isSealed h1))))) q_BN_sendValue rfl rfl wg_499 wg_501 ws_11 ⟨Nat.le_of_ble_eq_true rfl, Nat.le_of_ble_eq_true rfl⟩ hP hS o_BN rfl c_BN rfl (Nat.le_of_ble_eq_true rfl) d_BN_sample_75 rfl (fun H locs hP hS => ?_)
          refine lv_aload_n C.1 C.2.1 d_BN_sample_78 rfl (lv_at hl 1 rfl) ?_
          refine xcVv (rest := []) C hml hl.1 (k_BN_settleAlarms l D cA b (f_BN_sendValue (f_CH_measure st (20 * a1.toNatClampNeg + 4 * a2.toNatClampNeg) a3 (st 0 8 0)) a1 a2) (p_BN_sendValue (pok_of hp (fr_CH_measure (by decide) (by decide)) (fun _ => fr_CH_measure (by simp) (by decide)))) (dok_of (dok_of ho (fun _ => fr_CH_measure (by decide) (by decide))) (fun _ => fr_BN_sendValue (by decide) (by decide)))) q_BN_settleAlarms rfl rfl wg_507 wg_509 ws_13 ⟨Nat.le_of_ble_eq_true rfl, Nat.le_of_ble_eq_true rfl⟩ hP hS o_BN rfl c_BN rfl (Nat.le_of_ble_eq_true rfl) d_BN_sample_79 rfl (fun H locs hP hS => ?_)
          refine lv_iconst (v := 1) C.1 C.2.1 d_BN_sample_82 (by decide) ?_
          exact xrz C hlk hr bz_1 hP hS d_BN_sample_83 ⟨by rw [f_BN_sample, if_neg h1, if_neg h2, if_neg h3, if_neg h4], by rw [f_BN_sample, if_neg h1, if_neg h2, if_neg h3, if_neg h4]⟩
        · refine lv_iconst (v := 0) C.1 C.2.1 d_BN_sample_60 (by decide) ?_
          exact xrz C hlk hr bz_0 hP hS d_BN_sample_61 ⟨by rw [f_BN_sample, if_neg h1, if_neg h2, if_neg h3, if_pos h4], by rw [f_BN_sample, if_neg h1, if_neg h2, if_neg h3, if_pos h4]⟩
      · refine lv_iconst (v := 0) C.1 C.2.1 d_BN_sample_33 (by decide) ?_
        exact xrz C hlk hr bz_0 hP hS d_BN_sample_34 ⟨by rw [f_BN_sample, if_neg h1, if_neg h2, if_pos h3], by rw [f_BN_sample, if_neg h1, if_neg h2, if_pos h3]⟩
