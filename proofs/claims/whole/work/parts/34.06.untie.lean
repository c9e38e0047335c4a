def g_MO_untie_11 : Nat → XS → Int32 → Int32 → XS
  | 0, st, a1, x2 => st
  | n + 1, st, a1, x2 =>
    if ((4 * a1) + 4) ≤ x2 then st
    else (g_MO_untie_11 n (xu st 24 x2.toNatClampNeg 0 0) a1 (x2 + 1))
set_option maxRecDepth 100000 in
set_option maxHeartbeats 4000000 in
theorem w_MO_untie_11 (l : Launch) (D : va_G) (cA : Nat → ClassId) (b : Nat) (a1 : Int32) (hd1 : vp_in a1 8) {p : Program} {e : Env} {s : State} {m : MethodId} {below : List Frame} {meth : Method} {c : Code} {Q : State → Prop} (C : xCx p s m ([.ref (b + 0), .int a1] : List Value).toArray c b_MO_untie y_MO_untie.cls D cA) (hml : c.maxLocals = 3) {stE : XS} (kx : ∀ (H1 : Heap) (locs1 : List Loc) (ls1 : Array Slot), xP mw D cA b stE H1 → va_S (xA mw b) s.heap H1 locs1 → lv_has ls1 3 [(0, .ref (b + 0)), (1, .int a1)] → W p l e { frames := 0, cells := 0, slots := 0, locals := 0 } s m ([.ref (b + 0), .int a1] : List Value).toArray below meth c H1 locs1 0 0 Q (F0 m 33 ls1 [])) : ∀ (n : Nat) (st : XS) (x2 : Int32) (H : Heap) (locs : List Loc) (ls : Array Slot), lpi 32 n x2 → lv_has ls 3 [(0, .ref (b + 0)), (1, .int a1), (2, .int x2)] → xP mw D cA b st H → va_S (xA mw b) s.heap H locs → g_MO_untie_11 n st a1 x2 = stE → W p l e { frames := 0, cells := 0, slots := 0, locals := 0 } s m ([.ref (b + 0), .int a1] : List Value).toArray below meth c H locs 0 0 Q (F0 m 11 ls []) := by
  intro n
  induction n with
  | zero =>
    intro st x2 H locs ls hx
    exact absurd hx (fun h => lpi_no h)
  | succ n ih =>
    intro st x2 H locs ls hx hl hP hS hg
    refine lv_iload_n C.1 C.2.1 d_MO_untie_11 rfl (lv_at hl 2 rfl) ?_
    refine lv_iconst (v := 4) C.1 C.2.1 d_MO_untie_12 (by decide) ?_
    refine lv_iload_n C.1 C.2.1 d_MO_untie_13 rfl (lv_at hl 1 rfl) ?_
    refine lv_imul C.1 C.2.1 d_MO_untie_14 ?_
    refine lv_iconst (v := 4) C.1 C.2.1 d_MO_untie_15 (by decide) ?_
    refine lv_iadd C.1 C.2.1 d_MO_untie_16 ?_
    refine lv_icmp_ge (tgt := 33) C.1 C.2.1 d_MO_untie_17 (by decide) (fun h1 => ?_) (fun h1 => ?_)
    · rw [g_MO_untie_11, if_pos h1] at hg
      subst hg
      exact kx _ _ ls hP hS (lv_sub hl [0, 1] rfl)
    · refine lv_aload_n C.1 C.2.1 d_MO_untie_20 rfl (lv_at hl 0 rfl) ?_
      refine xget C hP o_MO rfl c_MO (k := 27) (v := .ref (b + 24)) (by decide) wg_904 rfl d_MO_untie_21 ?_
      refine lv_iload_n C.1 C.2.1 d_MO_untie_24 rfl (lv_at hl 2 rfl) ?_
      refine lv_iconst (v := 0) C.1 C.2.1 d_MO_untie_25 (by decide) ?_
      refine xzast mw_inj C hP hS om_24 rfl (lpi_ix hx (lpi_c hx h1 (q4 hd1)) (by decide)) rfl d_MO_untie_26 (fun H locs hP hS => ?_)
      refine lv_iinc (v := (x2 + 1)) C.1 C.2.1 d_MO_untie_27 hl (k := 2) rfl rfl (by decide) rfl (fun ls hl => ?_)
      have hl : lv_has ls 3 [(2, .int (x2 + 1)), (0, .ref (b + 0)), (1, .int a1)] := hl
      refine lv_goto (tgt := 11) C.1 C.2.1 d_MO_untie_30 (by decide) ?_
      rw [g_MO_untie_11, if_neg h1] at hg
      exact ih _ _ _ _ ls (lpi_nx hx (lpi_c hx h1 (q4 hd1)) (by decide)) (lv_sub hl [1, 2, 0] rfl) hP hS hg
theorem fr_MO_untie_11 {a' k' i' : Nat} (h : (a', k') ∉ ([] : List (Nat × Nat))) (h2 : a' ∉ ([24] : List Nat)) : ∀ (n : Nat) (st : XS) (a1 : Int32) (x2 : Int32), (g_MO_untie_11 n st a1 x2) a' k' i' = st a' k' i' := by
  intro n
  induction n with
  | zero => intro st a1 x2; rfl
  | succ n ih =>
    intro st a1 x2
    unfold g_MO_untie_11
    repeat' split
    all_goals (try dsimp only)
    all_goals (repeat (first | with_reducible rfl | rw [xu_f (fun e => h (by rw [e]; decide))] | rw [xu_a (fun e => h2 (by rw [e]; decide))] | rw [ih]))
theorem pg_MO_untie_11 (n : Nat) (st : XS) (a1 : Int32) (x2 : Int32) (h : qok st) : qok (g_MO_untie_11 n st a1 x2) := qok_of h (fr_MO_untie_11 (by decide) (by decide) _ _ _ _ )
def f_MO_untie (st : XS) (a1 : Int32) : XS :=
  (g_MO_untie_11 33 (xu st 6 a1.toNatClampNeg 0 0) a1 (4 * a1))
set_option maxRecDepth 100000 in
set_option maxHeartbeats 4000000 in
theorem fr_MO_untie {st : XS} {a1 : Int32} {a' k' i' : Nat} (h : (a', k') ∉ ([] : List (Nat × Nat))) (h2 : a' ∉ ([6, 24] : List Nat)) : (f_MO_untie st a1) a' k' i' = st a' k' i' := by
  unfold f_MO_untie
  repeat' split
  all_goals (try dsimp only)
  all_goals (repeat (first | with_reducible rfl | rw [xu_f (fun e => h (by rw [e]; decide))] | rw [xu_a (fun e => h2 (by rw [e]; decide))] | rw [fr_MO_untie_11 (fun q => h ((by decide : ∀ z ∈ ([] : List (Nat × Nat)), z ∈ ([] : List (Nat × Nat))) _ q)) (fun q => h2 ((by decide : ∀ z ∈ ([24] : List Nat), z ∈ ([6, 24] : List Nat)) _ q))]))
theorem p_MO_untie {st : XS} {a1 : Int32} (h : qok st) : qok (f_MO_untie st a1) := qok_of h (fr_MO_untie (by decide) (by decide))
set_option maxRecDepth 100000 in
set_option maxHeartbeats 4000000 in
theorem k_MO_untie (l : Launch) (D : va_G) (cA : Nat → ClassId) (b : Nat) (st : XS) (a1 : Int32) (hd1 : vp_in a1 8) : xMv mw D cA b l y_MO_untie (Cond.code y_MO_untie b_MO_untie 3 none) { frames := 0, cells := 0, slots := 0, locals := 0 } st [.ref (b + 0), .int a1] (f_MO_untie st a1) := by
  refine xMv_of rfl (by decide) (Nat.le_of_ble_eq_true rfl) ?_
  intro p e s m below meth c ls C hlk hr hml hl hP hS
  have hl : lv_has ls 3 [(0, .ref (b + 0)), (1, .int a1)] := hl
  refine lv_aload_n C.1 C.2.1 d_MO_untie_0 rfl (lv_at hl 0 rfl) ?_
  refine xget C hP o_MO rfl c_MO (k := 9) (v := .ref (b + 6)) (by decide) wg_886 rfl d_MO_untie_1 ?_
  refine lv_iload_n C.1 C.2.1 d_MO_untie_4 rfl (lv_at hl 1 rfl) ?_
  refine lv_iconst (v := 0) C.1 C.2.1 d_MO_untie_5 (by decide) ?_
  refine xiast mw_inj C hP hS om_6 rfl hd1 rfl d_MO_untie_6 (fun H locs hP hS => ?_)
  refine lv_iconst (v := 4) C.1 C.2.1 d_MO_untie_7 (by decide) ?_
  refine lv_iload_n C.1 C.2.1 d_MO_untie_8 rfl (lv_at hl 1 rfl) ?_
  refine lv_imul C.1 C.2.1 d_MO_untie_9 ?_
  refine lv_istore_n C.1 C.2.1 d_MO_untie_10 rfl hl (by decide) rfl (fun ls hl => ?_)
  have hl : lv_has ls 3 [(2, .int (4 * a1)), (0, .ref (b + 0)), (1, .int a1)] := hl
  refine w_MO_untie_11 l D cA b a1 hd1 C hml  (fun H locs ls hP hS hl => ?_) 33 (xu st 6 a1.toNatClampNeg 0 0) (4 * a1) _ _ ls (lp4_st hd1) (lv_sub hl [1, 2, 0] rfl) hP hS rfl
  have hl : lv_has ls 3 [(0, .ref (b + 0)), (1, .int a1)] := hl
  exact xrv C hlk hr hP hS d_MO_untie_33 (by rw [f_MO_untie])
