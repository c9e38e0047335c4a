def g_BN_stationSounds_2 : Nat → XS → Int32 → Int32
  | 0, st, x1 => 0
  | n + 1, st, x1 =>
    if 8 ≤ x1 then 0
    else if (f_DE_soundsAtStation st x1.toNatClampNeg) = 0 then (g_BN_stationSounds_2 n st (x1 + 1))
    else 1
set_option maxRecDepth 100000 in
set_option maxHeartbeats 4000000 in
theorem w_BN_stationSounds_2 (l : Launch) (D : va_G) (cA : Nat → ClassId) (b : Nat) (st : XS) {p : Program} {e : Env} {s : State} {m : MethodId} {below : List Frame} {meth : Method} {c : Code} (C : xCx p s m ([.ref (b + 0)] : List Value).toArray c b_BN_stationSounds y_BN_stationSounds.cls D cA) (hlk : meth.locks = false) (hr : meth.sig.returnType = some .boolean) (hml : c.maxLocals = 2) {r : Int32} : ∀ (n : Nat) (x1 : Int32) (H : Heap) (locs : List Loc) (ls : Array Slot), lpi 8 n x1 → dok st → lv_has ls 2 [(0, .ref (b + 0)), (1, .int x1)] → xP cw D cA b st H → va_S (xA cw b) s.heap H locs → g_BN_stationSounds_2 n st x1 = r → W p l e { frames := 2, cells := 0, slots := 0, locals := 41 } s m ([.ref (b + 0)] : List Value).toArray below meth c H locs 0 0 (xEi cw D cA b below ([.ref (b + 0)] : List Value).toArray s r st) (F0 m 2 ls []) := by
  intro n
  induction n with
  | zero =>
    intro x1 H locs ls hx
    exact absurd hx (fun h => lpi_no h)
  | succ n ih =>
    intro x1 H locs ls hx hi hl hP hS hg
    refine lv_iload_n C.1 C.2.1 d_BN_stationSounds_2 rfl (lv_at hl 1 rfl) ?_
    refine lv_bipush (v := 8) C.1 C.2.1 d_BN_stationSounds_3 (by decide) ?_
    refine lv_icmp_ge (tgt := 28) C.1 C.2.1 d_BN_stationSounds_5 (by decide) (fun h1 => ?_) (fun h1 => ?_)
    · refine lv_iconst (v := 0) C.1 C.2.1 d_BN_stationSounds_28 (by decide) ?_
      exact xrz C hlk hr bz_0 hP hS d_BN_stationSounds_29 ⟨by rw [g_BN_stationSounds_2, if_pos h1] at hg; exact hg, rfl⟩
    · refine lv_aload_n C.1 C.2.1 d_BN_stationSounds_8 rfl (lv_at hl 0 rfl) ?_
      refine xget C hP o_BN rfl c_BN (k := 0) (v := .ref (b + 1)) (by decide) wg_378 rfl d_BN_stationSounds_9 ?_
      refine lv_iload_n C.1 C.2.1 d_BN_stationSounds_12 rfl (lv_at hl 1 rfl) ?_
      refine xaald C hP o_da rfl (E := R_DE) rfl (v := b + (73 + 20 * x1.toNatClampNeg)) (lpi_ix hx (lpi_c hx h1 i32_8) (by decide)) rfl d_BN_stationSounds_13 ?_
      refine xcVNi (rest := []) C hml hl.1 (k_DE_soundsAtStation l D cA b st x1.toNatClampNeg (xin_lt (lpi_ix hx (lpi_c hx h1 i32_8) (by decide))) (hi _ (xin_lt (lpi_ix hx (lpi_c hx h1 i32_8) (by decide))))) q_DE_soundsAtStation rfl rfl wn_633 wg_635 ws_35 ⟨Nat.le_of_ble_eq_true rfl, Nat.le_of_ble_eq_true rfl⟩ hP hS (o_DE (xin_lt (lpi_ix hx (lpi_c hx h1 i32_8) (by decide)))) rfl c_DE rfl (Nat.le_of_ble_eq_true rfl) d_BN_stationSounds_14 rfl (fun H locs hP hS => ?_)
      refine lv_if_eq (tgt := 22) C.1 C.2.1 d_BN_stationSounds_17 (by decide) (fun h2 => ?_) (fun h2 => ?_)
      · refine lv_iinc (v := (x1 + 1)) C.1 C.2.1 d_BN_stationSounds_22 hl (k := 1) rfl rfl (by decide) rfl (fun ls hl => ?_)
        have hl : lv_has ls 2 [(1, .int (x1 + 1)), (0, .ref (b + 0))] := hl
        refine lv_goto (tgt := 2) C.1 C.2.1 d_BN_stationSounds_25 (by decide) ?_
        rw [g_BN_stationSounds_2, if_neg h1, if_pos h2] at hg
        exact ih _ _ _ ls (lpi_nx hx (lpi_c hx h1 i32_8) (by decide)) hi (lv_sub hl [1, 0] rfl) hP hS hg
      · refine lv_iconst (v := 1) C.1 C.2.1 d_BN_stationSounds_20 (by decide) ?_
        exact xrz C hlk hr bz_1 hP hS d_BN_stationSounds_21 ⟨by rw [g_BN_stationSounds_2, if_neg h1, if_neg h2] at hg; exact hg, rfl⟩
theorem zg_BN_stationSounds_2 {st : XS} : ∀ (n : Nat) (x1 : Int32), bz (g_BN_stationSounds_2 n st x1) = g_BN_stationSounds_2 n st x1 := by
  intro n
  induction n with
  | zero => intro x; exact bz_0
  | succ n ih =>
    intro x
    unfold g_BN_stationSounds_2
    repeat' split
    all_goals first | exact bz_0 | exact bz_1 | exact bz_bz _ | exact ih _
def f_BN_stationSounds (st : XS) : Int32 :=
  (g_BN_stationSounds_2 9 st 0)
set_option maxRecDepth 100000 in
set_option maxHeartbeats 4000000 in
theorem z_BN_stationSounds {st : XS} : bz (f_BN_stationSounds st) = (f_BN_stationSounds st) := by
  unfold f_BN_stationSounds
  repeat' split
  all_goals first | with_reducible exact bz_0 | with_reducible exact bz_1 | with_reducible exact bz_bz _ | with_reducible exact zg_BN_stationSounds_2 _ _ | with_reducible exact z_DE_soundsAtStation
set_option maxRecDepth 100000 in
set_option maxHeartbeats 4000000 in
theorem k_BN_stationSounds (l : Launch) (D : va_G) (cA : Nat → ClassId) (b : Nat) (st : XS) (ho : dok st) : xMi cw D cA b l y_BN_stationSounds (Cond.code y_BN_stationSounds b_BN_stationSounds 2 (some .boolean)) { frames := 2, cells := 0, slots := 0, locals := 41 } st [.ref (b + 0)] (f_BN_stationSounds st) st := by
  refine xMi_of rfl (by decide) (Nat.le_of_ble_eq_true rfl) ?_
  intro p e s m below meth c ls C hlk hr hml hl hP hS
  have hl : lv_has ls 2 [(0, .ref (b + 0))] := hl
  refine lv_iconst (v := 0) C.1 C.2.1 d_BN_stationSounds_0 (by decide) ?_
  refine lv_istore_n C.1 C.2.1 d_BN_stationSounds_1 rfl hl (by decide) rfl (fun ls hl => ?_)
  have hl : lv_has ls 2 [(1, .int 0), (0, .ref (b + 0))] := hl
  exact w_BN_stationSounds_2 l D cA b st C hlk hr hml 9 0 _ _ ls lpi_st ho (lv_sub hl [1, 0] rfl) hP hS (by rw [f_BN_stationSounds])
