def g_BN_leastDeviceWith_2 : Nat → XS → Int32 → Int32 → Int32 → Int32
  | 0, st, a1, a2, x3 => 0
  | n + 1, st, a1, a2, x3 =>
    if 8 ≤ x3 then (-1)
    else if (st 8 3 x3.toNatClampNeg) = a1 then (if (st 8 6 x3.toNatClampNeg) = 0 then (g_BN_leastDeviceWith_2 n st a1 a2 (x3 + 1))
      else if (f_DE_leastChannelWith st x3.toNatClampNeg a2) = (-1) then (g_BN_leastDeviceWith_2 n st a1 a2 (x3 + 1))
      else x3)
    else (g_BN_leastDeviceWith_2 n st a1 a2 (x3 + 1))
set_option maxRecDepth 100000 in
set_option maxHeartbeats 4000000 in
theorem w_BN_leastDeviceWith_2 (l : Launch) (D : va_G) (cA : Nat → ClassId) (b : Nat) (a1 : Int32) (a2 : Int32) (st : XS) {p : Program} {e : Env} {s : State} {m : MethodId} {below : List Frame} {meth : Method} {c : Code} (C : xCx p s m ([.ref (b + 0), .int a1, .int a2] : List Value).toArray c b_BN_leastDeviceWith y_BN_leastDeviceWith.cls D cA) (hlk : meth.locks = false) (hr : meth.sig.returnType = some .int) (hml : c.maxLocals = 4) {r : Int32} : ∀ (n : Nat) (x3 : Int32) (H : Heap) (locs : List Loc) (ls : Array Slot), lpi 8 n x3 → dok st → lv_has ls 4 [(0, .ref (b + 0)), (1, .int a1), (2, .int a2), (3, .int x3)] → xP cw D cA b st H → va_S (xA cw b) s.heap H locs → g_BN_leastDeviceWith_2 n st a1 a2 x3 = r → W p l e { frames := 1, cells := 0, slots := 0, locals := 22 } s m ([.ref (b + 0), .int a1, .int a2] : List Value).toArray below meth c H locs 0 0 (xEi cw D cA b below ([.ref (b + 0), .int a1, .int a2] : List Value).toArray s r st) (F0 m 2 ls []) := by
  intro n
  induction n with
  | zero =>
    intro x3 H locs ls hx
    exact absurd hx (fun h => lpi_no h)
  | succ n ih =>
    intro x3 H locs ls hx hi hl hP hS hg
    refine lv_iload_n C.1 C.2.1 d_BN_leastDeviceWith_2 rfl (lv_at hl 3 rfl) ?_
    refine lv_bipush (v := 8) C.1 C.2.1 d_BN_leastDeviceWith_3 (by decide) ?_
    refine lv_icmp_ge (tgt := 55) C.1 C.2.1 d_BN_leastDeviceWith_5 (by decide) (fun h1 => ?_) (fun h1 => ?_)
    · refine lv_iconst (v := (-1)) C.1 C.2.1 d_BN_leastDeviceWith_55 (by decide) ?_
      exact xri C hlk hr hP hS d_BN_leastDeviceWith_56 ⟨by rw [g_BN_leastDeviceWith_2, if_pos h1] at hg; exact hg, rfl⟩
    · refine lv_aload_n C.1 C.2.1 d_BN_leastDeviceWith_8 rfl (lv_at hl 0 rfl) ?_
      refine xget C hP o_BN rfl c_BN (k := 0) (v := .ref (b + 1)) (by decide) wg_378 rfl d_BN_leastDeviceWith_9 ?_
      refine lv_iload_n C.1 C.2.1 d_BN_leastDeviceWith_12 rfl (lv_at hl 3 rfl) ?_
      refine xaald C hP o_da rfl (E := R_DE) rfl (v := b + (73 + 20 * x3.toNatClampNeg)) (lpi_ix hx (lpi_c hx h1 i32_8) (by decide)) rfl d_BN_leastDeviceWith_13 ?_
      refine xgetN C hP (o_DE (xin_lt (lpi_ix hx (lpi_c hx h1 i32_8) (by decide)))) rfl c_DE (k := 3) (v := .int (st 8 3 x3.toNatClampNeg)) (by decide) wn_287 rfl d_BN_leastDeviceWith_14 ?_
      refine lv_iload_n C.1 C.2.1 d_BN_leastDeviceWith_17 rfl (lv_at hl 1 rfl) ?_
      refine lv_icmp_ne (tgt := 49) C.1 C.2.1 d_BN_leastDeviceWith_18 (by decide) (fun h2 => ?_) (fun h2 => ?_)
      · refine lv_iinc (v := (x3 + 1)) C.1 C.2.1 d_BN_leastDeviceWith_49 hl (k := 3) rfl rfl (by decide) rfl (fun ls hl => ?_)
        have hl : lv_has ls 4 [(3, .int (x3 + 1)), (0, .ref (b + 0)), (1, .int a1), (2, .int a2)] := hl
        refine lv_goto (tgt := 2) C.1 C.2.1 d_BN_leastDeviceWith_52 (by decide) ?_
        rw [g_BN_leastDeviceWith_2, if_neg h1, if_neg h2] at hg
        exact ih _ _ _ ls (lpi_nx hx (lpi_c hx h1 i32_8) (by decide)) hi (lv_sub hl [1, 2, 3, 0] rfl) hP hS hg
      · refine lv_aload_n C.1 C.2.1 d_BN_leastDeviceWith_21 rfl (lv_at hl 0 rfl) ?_
        refine xget C hP o_BN rfl c_BN (k := 0) (v := .ref (b + 1)) (by decide) wg_378 rfl d_BN_leastDeviceWith_22 ?_
        refine lv_iload_n C.1 C.2.1 d_BN_leastDeviceWith_25 rfl (lv_at hl 3 rfl) ?_
        refine xaald C hP o_da rfl (E := R_DE) rfl (v := b + (73 + 20 * x3.toNatClampNeg)) (lpi_ix hx (lpi_c hx h1 i32_8) (by decide)) rfl d_BN_leastDeviceWith_26 ?_
        refine xgetN C hP (o_DE (xin_lt (lpi_ix hx (lpi_c hx h1 i32_8) (by decide)))) rfl c_DE (k := 6) (v := .int (st 8 6 x3.toNatClampNeg)) (by decide) wn_293 rfl d_BN_leastDeviceWith_27 ?_
        refine lv_if_eq (tgt := 49) C.1 C.2.1 d_BN_leastDeviceWith_30 (by decide) (fun h3 => ?_) (fun h3 => ?_)
        · refine lv_iinc (v := (x3 + 1)) C.1 C.2.1 d_BN_leastDeviceWith_49 hl (k := 3) rfl rfl (by decide) rfl (fun ls hl => ?_)
          have hl : lv_has ls 4 [(3, .int (x3 + 1)), (0, .ref (b + 0)), (1, .int a1), (2, .int a2)] := hl
          refine lv_goto (tgt := 2) C.1 C.2.1 d_BN_leastDeviceWith_52 (by decide) ?_
          rw [g_BN_leastDeviceWith_2, if_neg h1, if_pos h2, if_pos h3] at hg
          exact ih _ _ _ ls (lpi_nx hx (lpi_c hx h1 i32_8) (by decide)) hi (lv_sub hl [1, 2, 3, 0] rfl) hP hS hg
        · refine lv_aload_n C.1 C.2.1 d_BN_leastDeviceWith_33 rfl (lv_at hl 0 rfl) ?_
          refine xget C hP o_BN rfl c_BN (k := 0) (v := .ref (b + 1)) (by decide) wg_378 rfl d_BN_leastDeviceWith_34 ?_
          refine lv_iload_n C.1 C.2.1 d_BN_leastDeviceWith_37 rfl (lv_at hl 3 rfl) ?_
          refine xaald C hP o_da rfl (E := R_DE) rfl (v := b + (73 + 20 * x3.toNatClampNeg)) (lpi_ix hx (lpi_c hx h1 i32_8) (by decide)) rfl d_BN_leastDeviceWith_38 ?_
          refine lv_iload_n C.1 C.2.1 d_BN_leastDeviceWith_39 rfl (lv_at hl 2 rfl) ?_
          refine xcVNi (rest := []) C hml hl.1 (k_DE_leastChannelWith l D cA b st x3.toNatClampNeg (xin_lt (lpi_ix hx (lpi_c hx h1 i32_8) (by decide))) a2 (hi _ (xin_lt (lpi_ix hx (lpi_c hx h1 i32_8) (by decide))))) q_DE_leastChannelWith rfl rfl wn_761 wg_763 ws_41 ⟨Nat.le_of_ble_eq_true rfl, Nat.le_of_ble_eq_true rfl⟩ hP hS (o_DE (xin_lt (lpi_ix hx (lpi_c hx h1 i32_8) (by decide)))) rfl c_DE rfl (Nat.le_of_ble_eq_true rfl) d_BN_leastDeviceWith_40 rfl (fun H locs hP hS => ?_)
          refine lv_iconst (v := (-1)) C.1 C.2.1 d_BN_leastDeviceWith_43 (by decide) ?_
          refine lv_icmp_eq (tgt := 49) C.1 C.2.1 d_BN_leastDeviceWith_44 (by decide) (fun h4 => ?_) (fun h4 => ?_)
          · refine lv_iinc (v := (x3 + 1)) C.1 C.2.1 d_BN_leastDeviceWith_49 hl (k := 3) rfl rfl (by decide) rfl (fun ls hl => ?_)
            have hl : lv_has ls 4 [(3, .int (x3 + 1)), (0, .ref (b + 0)), (1, .int a1), (2, .int a2)] := hl
            refine lv_goto (tgt := 2) C.1 C.2.1 d_BN_leastDeviceWith_52 (by decide) ?_
            rw [g_BN_leastDeviceWith_2, if_neg h1, if_pos h2, if_neg h3, if_pos h4] at hg
            exact ih _ _ _ ls (lpi_nx hx (lpi_c hx h1 i32_8) (by decide)) hi (lv_sub hl [1, 2, 3, 0] rfl) hP hS hg
          · refine lv_iload_n C.1 C.2.1 d_BN_leastDeviceWith_47 rfl (lv_at hl 3 rfl) ?_
            exact xri C hlk hr hP hS d_BN_leastDeviceWith_48 ⟨by rw [g_BN_leastDeviceWith_2, if_neg h1, if_pos h2, if_neg h3, if_neg h4] at hg; exact hg, rfl⟩
def f_BN_leastDeviceWith (st : XS) (a1 : Int32) (a2 : Int32) : Int32 :=
  (g_BN_leastDeviceWith_2 9 st a1 a2 0)
set_option maxRecDepth 100000 in
set_option maxHeartbeats 4000000 in
theorem k_BN_leastDeviceWith (l : Launch) (D : va_G) (cA : Nat → ClassId) (b : Nat) (st : XS) (a1 : Int32) (a2 : Int32) (ho : dok st) : xMi cw D cA b l y_BN_leastDeviceWith (Cond.code y_BN_leastDeviceWith b_BN_leastDeviceWith 4 (some .int)) { frames := 1, cells := 0, slots := 0, locals := 22 } st [.ref (b + 0), .int a1, .int a2] (f_BN_leastDeviceWith st a1 a2) st := by
  refine xMi_of rfl (by decide) (Nat.le_of_ble_eq_true rfl) ?_
  intro p e s m below meth c ls C hlk hr hml hl hP hS
  have hl : lv_has ls 4 [(0, .ref (b + 0)), (1, .int a1), (2, .int a2)] := hl
  refine lv_iconst (v := 0) C.1 C.2.1 d_BN_leastDeviceWith_0 (by decide) ?_
  refine lv_istore_n C.1 C.2.1 d_BN_leastDeviceWith_1 rfl hl (by decide) rfl (fun ls hl => ?_)
  have hl : lv_has ls 4 [(3, .int 0), (0, .ref (b + 0)), (1, .int a1), (2, .int a2)] := hl
  exact w_BN_leastDeviceWith_2 l D cA b a1 a2 st C hlk hr hml 9 0 _ _ ls lpi_st ho (lv_sub hl [1, 2, 3, 0] rfl) hP hS (by rw [f_BN_leastDeviceWith])
