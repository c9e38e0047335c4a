def g_BN_deliverWithinLife_38 : Nat → XS → Nat → Int32 → XS
  | 0, st, d, x2 => st
  | n + 1, st, d, x2 =>
    if (st 0 6 0) ≤ x2 then st
    else (g_BN_deliverWithinLife_38 n (f_DI_hear st x2.toNatClampNeg 65 (st 0 8 0)) d (x2 + 1))
set_option maxRecDepth 100000 in
set_option maxHeartbeats 4000000 in
theorem w_BN_deliverWithinLife_38 (l : Launch) (D : va_G) (cA : Nat → ClassId) (b : Nat) (d : Nat) (hd : d < 8) {p : Program} {e : Env} {s : State} {m : MethodId} {below : List Frame} {meth : Method} {c : Code} {Q : State → Prop} (C : xCx p s m ([.ref (b + 0), .ref (b + (73 + 20 * d))] : List Value).toArray c b_BN_deliverWithinLife y_BN_deliverWithinLife.cls D cA) (hml : c.maxLocals = 3) {stE : XS} (kx : ∀ (H1 : Heap) (locs1 : List Loc) (ls1 : Array Slot), xP cw D cA b stE H1 → va_S (xA cw b) s.heap H1 locs1 → lv_has ls1 3 [(0, .ref (b + 0)), (1, .ref (b + (73 + 20 * d)))] → W p l e { frames := 4, cells := 0, slots := 0, locals := 94 } s m ([.ref (b + 0), .ref (b + (73 + 20 * d))] : List Value).toArray below meth c H1 locs1 0 0 Q (F0 m 69 ls1 [])) : ∀ (n : Nat) (st : XS) (x2 : Int32) (H : Heap) (locs : List Loc) (ls : Array Slot), lpi 16 n x2 → (st 0 6 0).toInt ≤ (16 : Nat) → lv_has ls 3 [(0, .ref (b + 0)), (1, .ref (b + (73 + 20 * d))), (2, .int x2)] → xP cw D cA b st H → va_S (xA cw b) s.heap H locs → g_BN_deliverWithinLife_38 n st d x2 = stE → W p l e { frames := 4, cells := 0, slots := 0, locals := 94 } s m ([.ref (b + 0), .ref (b + (73 + 20 * d))] : List Value).toArray below meth c H locs 0 0 Q (F0 m 38 ls []) := by
  intro n
  induction n with
  | zero =>
    intro st x2 H locs ls hx
    exact absurd hx (fun h => lpi_no h)
  | succ n ih =>
    intro st x2 H locs ls hx hi hl hP hS hg
    refine lv_iload_n C.1 C.2.1 d_BN_deliverWithinLife_38 rfl (lv_at hl 2 rfl) ?_
    refine lv_aload_n C.1 C.2.1 d_BN_deliverWithinLife_39 rfl (lv_at hl 0 rfl) ?_
    refine xget C hP o_BN rfl c_BN (k := 6) (v := .int (st 0 6 0)) (by decide) wg_384 rfl d_BN_deliverWithinLife_40 ?_
    refine lv_icmp_ge (tgt := 69) C.1 C.2.1 d_BN_deliverWithinLife_43 (by decide) (fun h1 => ?_) (fun h1 => ?_)
    · rw [g_BN_deliverWithinLife_38, if_pos h1] at hg
      subst hg
      exact kx _ _ ls hP hS (lv_sub hl [0, 1] rfl)
    · refine lv_aload_n C.1 C.2.1 d_BN_deliverWithinLife_46 rfl (lv_at hl 0 rfl) ?_
      refine xget C hP o_BN rfl c_BN (k := 2) (v := .ref (b + 3)) (by decide) wg_380 rfl d_BN_deliverWithinLife_47 ?_
      refine lv_iload_n C.1 C.2.1 d_BN_deliverWithinLife_50 rfl (lv_at hl 2 rfl) ?_
      refine xaald C hP o_ya rfl (E := R_DI) rfl (v := b + (233 + x2.toNatClampNeg)) (lpi_ix hx (lpi_c hx h1 hi) (by decide)) rfl d_BN_deliverWithinLife_51 ?_
      refine lv_aload_n C.1 C.2.1 d_BN_deliverWithinLife_52 rfl (lv_at hl 0 rfl) ?_
      refine xget C hP o_BN rfl c_BN (k := 5) (v := .ref (b + 72)) (by decide) wg_383 rfl d_BN_deliverWithinLife_53 ?_
      refine lv_aload_n C.1 C.2.1 d_BN_deliverWithinLife_56 rfl (lv_at hl 0 rfl) ?_
      refine xget C hP o_BN rfl c_BN (k := 8) (v := .int (st 0 8 0)) (by decide) wg_386 rfl d_BN_deliverWithinLife_57 ?_
      refine xcVNv (rest := []) C hml hl.1 (k_DI_hear l D cA b st (233 + x2.toNatClampNeg) x2.toNatClampNeg (o_DI (xin_lt (lpi_ix hx (lpi_c hx h1 hi) (by decide)))) 72 65 o_IH (st 0 8 0)) q_DI_hear rfl rfl wn_558 wg_560 ws_24 ⟨Nat.le_of_ble_eq_true rfl, Nat.le_of_ble_eq_true rfl⟩ hP hS (o_DI (xin_lt (lpi_ix hx (lpi_c hx h1 hi) (by decide)))) rfl c_DI rfl (Nat.le_of_ble_eq_true rfl) d_BN_deliverWithinLife_60 rfl (fun H locs hP hS => ?_)
      refine lv_iinc (v := (x2 + 1)) C.1 C.2.1 d_BN_deliverWithinLife_63 hl (k := 2) rfl rfl (by decide) rfl (fun ls hl => ?_)
      have hl : lv_has ls 3 [(2, .int (x2 + 1)), (0, .ref (b + 0)), (1, .ref (b + (73 + 20 * d)))] := hl
      refine lv_goto (tgt := 38) C.1 C.2.1 d_BN_deliverWithinLife_66 (by decide) ?_
      rw [g_BN_deliverWithinLife_38, if_neg h1] at hg
      exact ih _ _ _ _ ls (lpi_nx hx (lpi_c hx h1 hi) (by decide)) (by rw [fr_DI_hear (by decide) (by decide)]; exact hi) (lv_sub hl [1, 2, 0] rfl) hP hS hg
theorem fr_BN_deliverWithinLife_38 {a' k' i' : Nat} (h : (a', k') ∉ ([(15, 4), (15, 5), (15, 6), (15, 7)] : List (Nat × Nat))) (h2 : a' ∉ ([] : List Nat)) : ∀ (n : Nat) (st : XS) (d : Nat) (x2 : Int32), (g_BN_deliverWithinLife_38 n st d x2) a' k' i' = st a' k' i' := by
  intro n
  induction n with
  | zero => intro st d x2; rfl
  | succ n ih =>
    intro st d x2
    unfold g_BN_deliverWithinLife_38
    repeat' split
    all_goals (try dsimp only)
    all_goals (repeat (first | with_reducible rfl | rw [xu_f (fun e => h (by rw [e]; decide))] | rw [fr_DI_hear (fun q => h ((by decide : ∀ z ∈ ([(15, 4), (15, 5), (15, 6), (15, 7)] : List (Nat × Nat)), z ∈ ([(15, 4), (15, 5), (15, 6), (15, 7)] : List (Nat × Nat))) _ q)) (fun q => h2 ((by decide : ∀ z ∈ ([] : List Nat), z ∈ ([] : List Nat)) _ q))] | rw [ih]))
theorem pg_BN_deliverWithinLife_38 (n : Nat) (st : XS) (d : Nat) (x2 : Int32) (h : pok st) : pok (g_BN_deliverWithinLife_38 n st d x2) := pok_of h (fr_BN_deliverWithinLife_38 (by decide) (by decide) _ _ _ _ ) (fun _ => fr_BN_deliverWithinLife_38 (by simp) (by decide) _ _ _ _ )
def f_BN_deliverWithinLife (st : XS) (d : Nat) : XS :=
  if (st 7 1 65) = 1 then (g_BN_deliverWithinLife_38 17 st d 0)
  else if (st 7 1 65) = 2 then (f_BN_learnAlarm st (20 * d + 4 * ((st 7 3 65)).toNatClampNeg))
  else if (st 7 1 65) = 3 then (xu st 8 7 d (st 0 8 0))
  else if (st 7 1 65) = 4 then (f_AL_hush st (20 * d + 4 * ((st 7 3 65)).toNatClampNeg))
  else st
set_option maxRecDepth 100000 in
set_option maxHeartbeats 4000000 in
theorem fr_BN_deliverWithinLife {st : XS} {d : Nat} {a' k' i' : Nat} (h : (a', k') ∉ ([(5, 1), (5, 2), (5, 3), (7, 0), (7, 1), (7, 2), (7, 3), (7, 4), (7, 5), (7, 6), (7, 7), (8, 7), (8, 8), (13, 8), (14, 0), (14, 1), (14, 2), (15, 4), (15, 5), (15, 6), (15, 7)] : List (Nat × Nat))) (h2 : a' ∉ ([] : List Nat)) : (f_BN_deliverWithinLife st d) a' k' i' = st a' k' i' := by
  unfold f_BN_deliverWithinLife
  repeat' split
  all_goals (try dsimp only)
  all_goals (repeat (first | with_reducible rfl | rw [xu_f (fun e => h (by rw [e]; decide))] | rw [fr_AL_hush (fun q => h ((by decide : ∀ z ∈ ([(13, 8)] : List (Nat × Nat)), z ∈ ([(5, 1), (5, 2), (5, 3), (7, 0), (7, 1), (7, 2), (7, 3), (7, 4), (7, 5), (7, 6), (7, 7), (8, 7), (8, 8), (13, 8), (14, 0), (14, 1), (14, 2), (15, 4), (15, 5), (15, 6), (15, 7)] : List (Nat × Nat))) _ q)) (fun q => h2 ((by decide : ∀ z ∈ ([] : List Nat), z ∈ ([] : List Nat)) _ q))] | rw [fr_BN_learnAlarm (fun q => h ((by decide : ∀ z ∈ ([(5, 1), (5, 2), (5, 3), (7, 0), (7, 1), (7, 2), (7, 3), (7, 4), (7, 5), (7, 6), (7, 7), (8, 8), (14, 0), (14, 1), (14, 2)] : List (Nat × Nat)), z ∈ ([(5, 1), (5, 2), (5, 3), (7, 0), (7, 1), (7, 2), (7, 3), (7, 4), (7, 5), (7, 6), (7, 7), (8, 7), (8, 8), (13, 8), (14, 0), (14, 1), (14, 2), (15, 4), (15, 5), (15, 6), (15, 7)] : List (Nat × Nat))) _ q)) (fun q => h2 ((by decide : ∀ z ∈ ([] : List Nat), z ∈ ([] : List Nat)) _ q))] | rw [fr_DI_hear (fun q => h ((by decide : ∀ z ∈ ([(15, 4), (15, 5), (15, 6), (15, 7)] : List (Nat × Nat)), z ∈ ([(5, 1), (5, 2), (5, 3), (7, 0), (7, 1), (7, 2), (7, 3), (7, 4), (7, 5), (7, 6), (7, 7), (8, 7), (8, 8), (13, 8), (14, 0), (14, 1), (14, 2), (15, 4), (15, 5), (15, 6), (15, 7)] : List (Nat × Nat))) _ q)) (fun q => h2 ((by decide : ∀ z ∈ ([] : List Nat), z ∈ ([] : List Nat)) _ q))] | rw [fr_BN_deliverWithinLife_38 (fun q => h ((by decide : ∀ z ∈ ([(15, 4), (15, 5), (15, 6), (15, 7)] : List (Nat × Nat)), z ∈ ([(5, 1), (5, 2), (5, 3), (7, 0), (7, 1), (7, 2), (7, 3), (7, 4), (7, 5), (7, 6), (7, 7), (8, 7), (8, 8), (13, 8), (14, 0), (14, 1), (14, 2), (15, 4), (15, 5), (15, 6), (15, 7)] : List (Nat × Nat))) _ q)) (fun q => h2 ((by decide : ∀ z ∈ ([] : List Nat), z ∈ ([] : List Nat)) _ q))]))
theorem p_BN_deliverWithinLife {st : XS} {d : Nat} (h : pok st) : pok (f_BN_deliverWithinLife st d) := by
  unfold f_BN_deliverWithinLife
  repeat' split
  all_goals (try dsimp only)
  all_goals (repeat (first | with_reducible refine pg_BN_deliverWithinLife_38 _ _ _ _ ?_ | with_reducible assumption | with_reducible refine p_AL_hush ?_ | with_reducible refine p_BN_learnAlarm ?_ | with_reducible refine p_DI_hear ?_ | with_reducible refine pok_xu ?_ ?_ ?_ | with_reducible refine pok_x5 ?_ ?_ | decide))
set_option maxRecDepth 100000 in
set_option maxHeartbeats 4000000 in
theorem k_BN_deliverWithinLife (l : Launch) (D : va_G) (cA : Nat → ClassId) (b : Nat) (st : XS) (d : Nat) (hd : d < 8) (hp : pok st) (hv : vp_in (st 7 2 65) 8) (hc : (st 7 1 65 = 2 ∨ st 7 1 65 = 4) → vp_in (st 7 3 65) 4) (hy : (st 0 6 0).toInt ≤ (16 : Nat)) : xMv cw D cA b l y_BN_deliverWithinLife (Cond.code y_BN_deliverWithinLife b_BN_deliverWithinLife 3 none) { frames := 4, cells := 0, slots := 0, locals := 94 } st [.ref (b + 0), .ref (b + (73 + 20 * d))] (f_BN_deliverWithinLife st d) := by
  refine xMv_of rfl (by decide) (Nat.le_of_ble_eq_true rfl) ?_
  intro p e s m below meth c ls C hlk hr hml hl hP hS
  have hl : lv_has ls 3 [(0, .ref (b + 0)), (1, .ref (b + (73 + 20 * d)))] := hl
  refine lv_aload_n C.1 C.2.1 d_BN_deliverWithinLife_0 rfl (lv_at hl 0 rfl) ?_
  refine xget C hP o_BN rfl c_BN (k := 5) (v := .ref (b + 72)) (by decide) wg_383 rfl d_BN_deliverWithinLife_1 ?_
  refine xgetN C hP o_IH rfl c_ME (k := 1) (v := .int (st 7 1 65)) (by decide) wn_54 rfl d_BN_deliverWithinLife_4 ?_
  by_cases h1 : (st 7 1 65) = 1
  · refine lv_tableIn (tgt := 36) (off := 29) C.1 C.2.1 d_BN_deliverWithinLife_7 (by rw [h1]; decide) (by rw [h1]; decide) (by rw [h1]; rfl) (by decide) ?_
    refine lv_iconst (v := 0) C.1 C.2.1 d_BN_deliverWithinLife_36 (by decide) ?_
    refine lv_istore_n C.1 C.2.1 d_BN_deliverWithinLife_37 rfl hl (by decide) rfl (fun ls hl => ?_)
    have hl : lv_has ls 3 [(2, .int 0), (0, .ref (b + 0)), (1, .ref (b + (73 + 20 * d)))] := hl
    refine w_BN_deliverWithinLife_38 l D cA b d hd C hml  (fun H locs ls hP hS hl => ?_) 17 st 0 _ _ ls lpi_st hy (lv_sub hl [1, 2, 0] rfl) hP hS rfl
    have hl : lv_has ls 3 [(0, .ref (b + 0)), (1, .ref (b + (73 + 20 * d)))] := hl
    refine lv_goto (tgt := 126) C.1 C.2.1 d_BN_deliverWithinLife_69 (by decide) ?_
    exact xrv C hlk hr hP hS d_BN_deliverWithinLife_126 (by rw [f_BN_deliverWithinLife, if_pos h1])
  by_cases h2 : (st 7 1 65) = 2
  · refine lv_tableIn (tgt := 72) (off := 65) C.1 C.2.1 d_BN_deliverWithinLife_7 (by rw [h2]; decide) (by rw [h2]; decide) (by rw [h2]; rfl) (by decide) ?_
    refine lv_aload_n C.1 C.2.1 d_BN_deliverWithinLife_72 rfl (lv_at hl 0 rfl) ?_
    refine lv_aload_n C.1 C.2.1 d_BN_deliverWithinLife_73 rfl (lv_at hl 1 rfl) ?_
    refine xgetN C hP (o_DE hd) rfl c_DE (k := 0) (v := .ref (b + (74 + 20 * d))) (by decide) wn_281 rfl d_BN_deliverWithinLife_74 ?_
    refine lv_aload_n C.1 C.2.1 d_BN_deliverWithinLife_77 rfl (lv_at hl 0 rfl) ?_
    refine xget C hP o_BN rfl c_BN (k := 5) (v := .ref (b + 72)) (by decide) wg_383 rfl d_BN_deliverWithinLife_78 ?_
    refine xgetN C hP o_IH rfl c_ME (k := 3) (v := .int (st 7 3 65)) (by decide) wn_62 rfl d_BN_deliverWithinLife_81 ?_
    refine xaald C hP (o_ca hd) rfl (E := R_CH) rfl (v := b + (77 + (20 * d + 4 * ((st 7 3 65)).toNatClampNeg))) (hc (Or.inl h2)) rfl d_BN_deliverWithinLife_84 ?_
    refine xgetN C hP (o_CH (cix_of hd (xin_lt (hc (Or.inl h2))))) rfl c_CH (k := 2) (v := .ref (b + (80 + (20 * d + 4 * ((st 7 3 65)).toNatClampNeg)))) (by decide) wn_247 rfl d_BN_deliverWithinLife_85 ?_
    refine xcVv (rest := []) C hml hl.1 (k_BN_learnAlarm l D cA b st (80 + (20 * d + 4 * ((st 7 3 65)).toNatClampNeg)) (20 * d + 4 * ((st 7 3 65)).toNatClampNeg) (o_KN (cix_of hd (xin_lt (hc (Or.inl h2))))) hp hv) q_BN_learnAlarm rfl rfl wg_562 wg_564 ws_25 ⟨Nat.le_of_ble_eq_true rfl, Nat.le_of_ble_eq_true rfl⟩ hP hS o_BN rfl c_BN rfl (Nat.le_of_ble_eq_true rfl) d_BN_deliverWithinLife_88 rfl (fun H locs hP hS => ?_)
    refine lv_goto (tgt := 126) C.1 C.2.1 d_BN_deliverWithinLife_91 (by decide) ?_
    exact xrv C hlk hr hP hS d_BN_deliverWithinLife_126 (by rw [f_BN_deliverWithinLife, if_neg h1, if_pos h2])
  by_cases h3 : (st 7 1 65) = 3
  · refine lv_tableIn (tgt := 94) (off := 87) C.1 C.2.1 d_BN_deliverWithinLife_7 (by rw [h3]; decide) (by rw [h3]; decide) (by rw [h3]; rfl) (by decide) ?_
    refine lv_aload_n C.1 C.2.1 d_BN_deliverWithinLife_94 rfl (lv_at hl 1 rfl) ?_
    refine lv_aload_n C.1 C.2.1 d_BN_deliverWithinLife_95 rfl (lv_at hl 0 rfl) ?_
    refine xget C hP o_BN rfl c_BN (k := 8) (v := .int (st 0 8 0)) (by decide) wg_386 rfl d_BN_deliverWithinLife_96 ?_
    refine xputN cw_inj C hP hS (o_DE hd) rfl c_DE (k := 7) (x := (st 0 8 0)) (by decide) wn_295 rfl rfl rfl rfl d_BN_deliverWithinLife_99 (fun H locs hP hS => ?_)
    refine lv_goto (tgt := 126) C.1 C.2.1 d_BN_deliverWithinLife_102 (by decide) ?_
    exact xrv C hlk hr hP hS d_BN_deliverWithinLife_126 (by rw [f_BN_deliverWithinLife, if_neg h1, if_neg h2, if_pos h3])
  by_cases h4 : (st 7 1 65) = 4
  · refine lv_tableIn (tgt := 105) (off := 98) C.1 C.2.1 d_BN_deliverWithinLife_7 (by rw [h4]; decide) (by rw [h4]; decide) (by rw [h4]; rfl) (by decide) ?_
    refine lv_aload_n C.1 C.2.1 d_BN_deliverWithinLife_105 rfl (lv_at hl 1 rfl) ?_
    refine xgetN C hP (o_DE hd) rfl c_DE (k := 0) (v := .ref (b + (74 + 20 * d))) (by decide) wn_281 rfl d_BN_deliverWithinLife_106 ?_
    refine lv_aload_n C.1 C.2.1 d_BN_deliverWithinLife_109 rfl (lv_at hl 0 rfl) ?_
    refine xget C hP o_BN rfl c_BN (k := 5) (v := .ref (b + 72)) (by decide) wg_383 rfl d_BN_deliverWithinLife_110 ?_
    refine xgetN C hP o_IH rfl c_ME (k := 3) (v := .int (st 7 3 65)) (by decide) wn_62 rfl d_BN_deliverWithinLife_113 ?_
    refine xaald C hP (o_ca hd) rfl (E := R_CH) rfl (v := b + (77 + (20 * d + 4 * ((st 7 3 65)).toNatClampNeg))) (hc (Or.inr h4)) rfl d_BN_deliverWithinLife_116 ?_
    refine xgetN C hP (o_CH (cix_of hd (xin_lt (hc (Or.inr h4))))) rfl c_CH (k := 1) (v := .ref (b + (79 + (20 * d + 4 * ((st 7 3 65)).toNatClampNeg)))) (by decide) wn_243 rfl d_BN_deliverWithinLife_117 ?_
    refine xcVNv (rest := []) C hml hl.1 (k_AL_hush l D cA b st (79 + (20 * d + 4 * ((st 7 3 65)).toNatClampNeg)) (20 * d + 4 * ((st 7 3 65)).toNatClampNeg) (o_AL (cix_of hd (xin_lt (hc (Or.inr h4)))))) q_AL_hush rfl rfl wn_574 wg_576 ws_28 ⟨Nat.le_of_ble_eq_true rfl, Nat.le_of_ble_eq_true rfl⟩ hP hS (o_AL (cix_of hd (xin_lt (hc (Or.inr h4))))) rfl c_AL rfl (Nat.le_of_ble_eq_true rfl) d_BN_deliverWithinLife_120 rfl (fun H locs hP hS => ?_)
    refine lv_goto (tgt := 126) C.1 C.2.1 d_BN_deliverWithinLife_123 (by decide) ?_
    exact xrv C hlk hr hP hS d_BN_deliverWithinLife_126 (by rw [f_BN_deliverWithinLife, if_neg h1, if_neg h2, if_neg h3, if_pos h4])
  refine lv_tableOut (tgt := 126) C.1 C.2.1 d_BN_deliverWithinLife_7 (by have eh1 := lv_neT h1 (a := 1) (by decide); have eh2 := lv_neT h2 (a := 2) (by decide); have eh3 := lv_neT h3 (a := 3) (by decide); have eh4 := lv_neT h4 (a := 4) (by decide); omega) (by decide) ?_
  exact xrv C hlk hr hP hS d_BN_deliverWithinLife_126 (by rw [f_BN_deliverWithinLife, if_neg h1, if_neg h2, if_neg h3, if_neg h4])
