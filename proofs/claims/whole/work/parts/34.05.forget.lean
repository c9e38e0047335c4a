def g_MO_forget_41 : Nat → XS → Int32 → Int32 → XS
  | 0, st, a1, x2 => st
  | n + 1, st, a1, x2 =>
    if ((4 * a1) + 4) ≤ x2 then st
    else (g_MO_forget_41 n (xu (xu (xu (xu (xu (xu (xu st 23 x2.toNatClampNeg 0 0) 24 x2.toNatClampNeg 0 0) 30 x2.toNatClampNeg 0 0) 31 x2.toNatClampNeg 0 0) 29 x2.toNatClampNeg 0 (-1000000000)) 28 x2.toNatClampNeg 0 (-1)) 27 x2.toNatClampNeg 0 (-1000000000)) a1 (x2 + 1))
set_option maxRecDepth 100000 in
set_option maxHeartbeats 4000000 in
theorem w_MO_forget_41 (l : Launch) (D : va_G) (cA : Nat → ClassId) (b : Nat) (a1 : Int32) (hd1 : vp_in a1 8) {p : Program} {e : Env} {s : State} {m : MethodId} {below : List Frame} {meth : Method} {c : Code} {Q : State → Prop} (C : xCx p s m ([.ref (b + 0), .int a1] : List Value).toArray c b_MO_forget y_MO_forget.cls D cA) (hml : c.maxLocals = 3) {stE : XS} (kx : ∀ (H1 : Heap) (locs1 : List Loc) (ls1 : Array Slot), xP mw D cA b stE H1 → va_S (xA mw b) s.heap H1 locs1 → lv_has ls1 3 [(0, .ref (b + 0)), (1, .int a1)] → W p l e { frames := 0, cells := 0, slots := 0, locals := 0 } s m ([.ref (b + 0), .int a1] : List Value).toArray below meth c H1 locs1 0 0 Q (F0 m 107 ls1 [])) : ∀ (n : Nat) (st : XS) (x2 : Int32) (H : Heap) (locs : List Loc) (ls : Array Slot), lpi 32 n x2 → lv_has ls 3 [(0, .ref (b + 0)), (1, .int a1), (2, .int x2)] → xP mw D cA b st H → va_S (xA mw b) s.heap H locs → g_MO_forget_41 n st a1 x2 = stE → W p l e { frames := 0, cells := 0, slots := 0, locals := 0 } s m ([.ref (b + 0), .int a1] : List Value).toArray below meth c H locs 0 0 Q (F0 m 41 ls []) := by
  intro n
  induction n with
  | zero =>
    intro st x2 H locs ls hx
    exact absurd hx (fun h => lpi_no h)
  | succ n ih =>
    intro st x2 H locs ls hx hl hP hS hg
    refine lv_iload_n C.1 C.2.1 d_MO_forget_41 rfl (lv_at hl 2 rfl) ?_
    refine lv_iconst (v := 4) C.1 C.2.1 d_MO_forget_42 (by decide) ?_
    refine lv_iload_n C.1 C.2.1 d_MO_forget_43 rfl (lv_at hl 1 rfl) ?_
    refine lv_imul C.1 C.2.1 d_MO_forget_44 ?_
    refine lv_iconst (v := 4) C.1 C.2.1 d_MO_forget_45 (by decide) ?_
    refine lv_iadd C.1 C.2.1 d_MO_forget_46 ?_
    refine lv_icmp_ge (tgt := 107) C.1 C.2.1 d_MO_forget_47 (by decide) (fun h1 => ?_) (fun h1 => ?_)
    · rw [g_MO_forget_41, if_pos h1] at hg
      subst hg
      exact kx _ _ ls hP hS (lv_sub hl [0, 1] rfl)
    · refine lv_aload_n C.1 C.2.1 d_MO_forget_50 rfl (lv_at hl 0 rfl) ?_
      refine xget C hP o_MO rfl c_MO (k := 26) (v := .ref (b + 23)) (by decide) wg_903 rfl d_MO_forget_51 ?_
      refine lv_iload_n C.1 C.2.1 d_MO_forget_54 rfl (lv_at hl 2 rfl) ?_
      refine lv_iconst (v := 0) C.1 C.2.1 d_MO_forget_55 (by decide) ?_
      refine xzast mw_inj C hP hS om_23 rfl (lpi_ix hx (lpi_c hx h1 (q4 hd1)) (by decide)) rfl d_MO_forget_56 (fun H locs hP hS => ?_)
      refine lv_aload_n C.1 C.2.1 d_MO_forget_57 rfl (lv_at hl 0 rfl) ?_
      refine xget C hP o_MO rfl c_MO (k := 27) (v := .ref (b + 24)) (by decide) wg_904 rfl d_MO_forget_58 ?_
      refine lv_iload_n C.1 C.2.1 d_MO_forget_61 rfl (lv_at hl 2 rfl) ?_
      refine lv_iconst (v := 0) C.1 C.2.1 d_MO_forget_62 (by decide) ?_
      refine xzast mw_inj C hP hS om_24 rfl (lpi_ix hx (lpi_c hx h1 (q4 hd1)) (by decide)) rfl d_MO_forget_63 (fun H locs hP hS => ?_)
      refine lv_aload_n C.1 C.2.1 d_MO_forget_64 rfl (lv_at hl 0 rfl) ?_
      refine xget C hP o_MO rfl c_MO (k := 33) (v := .ref (b + 30)) (by decide) wg_910 rfl d_MO_forget_65 ?_
      refine lv_iload_n C.1 C.2.1 d_MO_forget_68 rfl (lv_at hl 2 rfl) ?_
      refine lv_iconst (v := 0) C.1 C.2.1 d_MO_forget_69 (by decide) ?_
      refine xzast mw_inj C hP hS om_30 rfl (lpi_ix hx (lpi_c hx h1 (q4 hd1)) (by decide)) rfl d_MO_forget_70 (fun H locs hP hS => ?_)
      refine lv_aload_n C.1 C.2.1 d_MO_forget_71 rfl (lv_at hl 0 rfl) ?_
      refine xget C hP o_MO rfl c_MO (k := 34) (v := .ref (b + 31)) (by decide) wg_911 rfl d_MO_forget_72 ?_
      refine lv_iload_n C.1 C.2.1 d_MO_forget_75 rfl (lv_at hl 2 rfl) ?_
      refine lv_iconst (v := 0) C.1 C.2.1 d_MO_forget_76 (by decide) ?_
      refine xzast mw_inj C hP hS om_31 rfl (lpi_ix hx (lpi_c hx h1 (q4 hd1)) (by decide)) rfl d_MO_forget_77 (fun H locs hP hS => ?_)
      refine lv_aload_n C.1 C.2.1 d_MO_forget_78 rfl (lv_at hl 0 rfl) ?_
      refine xget C hP o_MO rfl c_MO (k := 32) (v := .ref (b + 29)) (by decide) wg_909 rfl d_MO_forget_79 ?_
      refine lv_iload_n C.1 C.2.1 d_MO_forget_82 rfl (lv_at hl 2 rfl) ?_
      refine lv_ldc (v := (-1000000000)) C.1 C.2.1 C.2.2.1 (C.2.2.2.1 _ wg_876) d_MO_forget_83 ?_
      refine xiast mw_inj C hP hS om_29 rfl (lpi_ix hx (lpi_c hx h1 (q4 hd1)) (by decide)) rfl d_MO_forget_85 (fun H locs hP hS => ?_)
      refine lv_aload_n C.1 C.2.1 d_MO_forget_86 rfl (lv_at hl 0 rfl) ?_
      refine xget C hP o_MO rfl c_MO (k := 31) (v := .ref (b + 28)) (by decide) wg_908 rfl d_MO_forget_87 ?_
      refine lv_iload_n C.1 C.2.1 d_MO_forget_90 rfl (lv_at hl 2 rfl) ?_
      refine lv_iconst (v := (-1)) C.1 C.2.1 d_MO_forget_91 (by decide) ?_
      refine xiast mw_inj C hP hS om_28 rfl (lpi_ix hx (lpi_c hx h1 (q4 hd1)) (by decide)) rfl d_MO_forget_92 (fun H locs hP hS => ?_)
      refine lv_aload_n C.1 C.2.1 d_MO_forget_93 rfl (lv_at hl 0 rfl) ?_
      refine xget C hP o_MO rfl c_MO (k := 30) (v := .ref (b + 27)) (by decide) wg_907 rfl d_MO_forget_94 ?_
      refine lv_iload_n C.1 C.2.1 d_MO_forget_97 rfl (lv_at hl 2 rfl) ?_
      refine lv_ldc (v := (-1000000000)) C.1 C.2.1 C.2.2.1 (C.2.2.2.1 _ wg_876) d_MO_forget_98 ?_
      refine xiast mw_inj C hP hS om_27 rfl (lpi_ix hx (lpi_c hx h1 (q4 hd1)) (by decide)) rfl d_MO_forget_100 (fun H locs hP hS => ?_)
      refine lv_iinc (v := (x2 + 1)) C.1 C.2.1 d_MO_forget_101 hl (k := 2) rfl rfl (by decide) rfl (fun ls hl => ?_)
      have hl : lv_has ls 3 [(2, .int (x2 + 1)), (0, .ref (b + 0)), (1, .int a1)] := hl
      refine lv_goto (tgt := 41) C.1 C.2.1 d_MO_forget_104 (by decide) ?_
      rw [g_MO_forget_41, if_neg h1] at hg
      exact ih _ _ _ _ ls (lpi_nx hx (lpi_c hx h1 (q4 hd1)) (by decide)) (lv_sub hl [1, 2, 0] rfl) hP hS hg
theorem fr_MO_forget_41 {a' k' i' : Nat} (h : (a', k') ∉ ([] : List (Nat × Nat))) (h2 : a' ∉ ([23, 24, 27, 28, 29, 30, 31] : List Nat)) : ∀ (n : Nat) (st : XS) (a1 : Int32) (x2 : Int32), (g_MO_forget_41 n st a1 x2) a' k' i' = st a' k' i' := by
  intro n
  induction n with
  | zero => intro st a1 x2; rfl
  | succ n ih =>
    intro st a1 x2
    unfold g_MO_forget_41
    repeat' split
    all_goals (try dsimp only)
    all_goals (repeat (first | with_reducible rfl | rw [xu_f (fun e => h (by rw [e]; decide))] | rw [xu_a (fun e => h2 (by rw [e]; decide))] | rw [ih]))
theorem pg_MO_forget_41 (n : Nat) (st : XS) (a1 : Int32) (x2 : Int32) (h : qok st) : qok (g_MO_forget_41 n st a1 x2) := qok_of h (fr_MO_forget_41 (by decide) (by decide) _ _ _ _ )
def f_MO_forget (st : XS) (a1 : Int32) : XS :=
  (g_MO_forget_41 33 (xu (xu (xu (xu (xu st 6 a1.toNatClampNeg 0 0) 7 a1.toNatClampNeg 0 0) 13 a1.toNatClampNeg 0 (-1)) 14 a1.toNatClampNeg 0 (-1000000000)) 15 a1.toNatClampNeg 0 (-1000000000)) a1 (4 * a1))
set_option maxRecDepth 100000 in
set_option maxHeartbeats 4000000 in
theorem fr_MO_forget {st : XS} {a1 : Int32} {a' k' i' : Nat} (h : (a', k') ∉ ([] : List (Nat × Nat))) (h2 : a' ∉ ([6, 7, 13, 14, 15, 23, 24, 27, 28, 29, 30, 31] : List Nat)) : (f_MO_forget st a1) a' k' i' = st a' k' i' := by
  unfold f_MO_forget
  repeat' split
  all_goals (try dsimp only)
  all_goals (repeat (first | with_reducible rfl | rw [xu_f (fun e => h (by rw [e]; decide))] | rw [xu_a (fun e => h2 (by rw [e]; decide))] | rw [fr_MO_forget_41 (fun q => h ((by decide : ∀ z ∈ ([] : List (Nat × Nat)), z ∈ ([] : List (Nat × Nat))) _ q)) (fun q => h2 ((by decide : ∀ z ∈ ([23, 24, 27, 28, 29, 30, 31] : List Nat), z ∈ ([6, 7, 13, 14, 15, 23, 24, 27, 28, 29, 30, 31] : List Nat)) _ q))]))
theorem p_MO_forget {st : XS} {a1 : Int32} (h : qok st) : qok (f_MO_forget st a1) := qok_of h (fr_MO_forget (by decide) (by decide))
set_option maxRecDepth 100000 in
set_option maxHeartbeats 4000000 in
theorem k_MO_forget (l : Launch) (D : va_G) (cA : Nat → ClassId) (b : Nat) (st : XS) (a1 : Int32) (hd1 : vp_in a1 8) : xMv mw D cA b l y_MO_forget (Cond.code y_MO_forget b_MO_forget 3 none) { frames := 0, cells := 0, slots := 0, locals := 0 } st [.ref (b + 0), .int a1] (f_MO_forget st a1) := by
  refine xMv_of rfl (by decide) (Nat.le_of_ble_eq_true rfl) ?_
  intro p e s m below meth c ls C hlk hr hml hl hP hS
  have hl : lv_has ls 3 [(0, .ref (b + 0)), (1, .int a1)] := hl
  refine lv_aload_n C.1 C.2.1 d_MO_forget_0 rfl (lv_at hl 0 rfl) ?_
  refine xget C hP o_MO rfl c_MO (k := 9) (v := .ref (b + 6)) (by decide) wg_886 rfl d_MO_forget_1 ?_
  refine lv_iload_n C.1 C.2.1 d_MO_forget_4 rfl (lv_at hl 1 rfl) ?_
  refine lv_iconst (v := 0) C.1 C.2.1 d_MO_forget_5 (by decide) ?_
  refine xiast mw_inj C hP hS om_6 rfl hd1 rfl d_MO_forget_6 (fun H locs hP hS => ?_)
  refine lv_aload_n C.1 C.2.1 d_MO_forget_7 rfl (lv_at hl 0 rfl) ?_
  refine xget C hP o_MO rfl c_MO (k := 10) (v := .ref (b + 7)) (by decide) wg_887 rfl d_MO_forget_8 ?_
  refine lv_iload_n C.1 C.2.1 d_MO_forget_11 rfl (lv_at hl 1 rfl) ?_
  refine lv_iconst (v := 0) C.1 C.2.1 d_MO_forget_12 (by decide) ?_
  refine xzast mw_inj C hP hS om_7 rfl hd1 rfl d_MO_forget_13 (fun H locs hP hS => ?_)
  refine lv_aload_n C.1 C.2.1 d_MO_forget_14 rfl (lv_at hl 0 rfl) ?_
  refine xget C hP o_MO rfl c_MO (k := 16) (v := .ref (b + 13)) (by decide) wg_893 rfl d_MO_forget_15 ?_
  refine lv_iload_n C.1 C.2.1 d_MO_forget_18 rfl (lv_at hl 1 rfl) ?_
  refine lv_iconst (v := (-1)) C.1 C.2.1 d_MO_forget_19 (by decide) ?_
  refine xiast mw_inj C hP hS om_13 rfl hd1 rfl d_MO_forget_20 (fun H locs hP hS => ?_)
  refine lv_aload_n C.1 C.2.1 d_MO_forget_21 rfl (lv_at hl 0 rfl) ?_
  refine xget C hP o_MO rfl c_MO (k := 17) (v := .ref (b + 14)) (by decide) wg_894 rfl d_MO_forget_22 ?_
  refine lv_iload_n C.1 C.2.1 d_MO_forget_25 rfl (lv_at hl 1 rfl) ?_
  refine lv_ldc (v := (-1000000000)) C.1 C.2.1 C.2.2.1 (C.2.2.2.1 _ wg_876) d_MO_forget_26 ?_
  refine xiast mw_inj C hP hS om_14 rfl hd1 rfl d_MO_forget_28 (fun H locs hP hS => ?_)
  refine lv_aload_n C.1 C.2.1 d_MO_forget_29 rfl (lv_at hl 0 rfl) ?_
  refine xget C hP o_MO rfl c_MO (k := 18) (v := .ref (b + 15)) (by decide) wg_895 rfl d_MO_forget_30 ?_
  refine lv_iload_n C.1 C.2.1 d_MO_forget_33 rfl (lv_at hl 1 rfl) ?_
  refine lv_ldc (v := (-1000000000)) C.1 C.2.1 C.2.2.1 (C.2.2.2.1 _ wg_876) d_MO_forget_34 ?_
  refine xiast mw_inj C hP hS om_15 rfl hd1 rfl d_MO_forget_36 (fun H locs hP hS => ?_)
  refine lv_iconst (v := 4) C.1 C.2.1 d_MO_forget_37 (by decide) ?_
  refine lv_iload_n C.1 C.2.1 d_MO_forget_38 rfl (lv_at hl 1 rfl) ?_
  refine lv_imul C.1 C.2.1 d_MO_forget_39 ?_
  refine lv_istore_n C.1 C.2.1 d_MO_forget_40 rfl hl (by decide) rfl (fun ls hl => ?_)
  have hl : lv_has ls 3 [(2, .int (4 * a1)), (0, .ref (b + 0)), (1, .int a1)] := hl
  refine w_MO_forget_41 l D cA b a1 hd1 C hml  (fun H locs ls hP hS hl => ?_) 33 (xu (xu (xu (xu (xu st 6 a1.toNatClampNeg 0 0) 7 a1.toNatClampNeg 0 0) 13 a1.toNatClampNeg 0 (-1)) 14 a1.toNatClampNeg 0 (-1000000000)) 15 a1.toNatClampNeg 0 (-1000000000)) (4 * a1) _ _ ls (lp4_st hd1) (lv_sub hl [1, 2, 0] rfl) hP hS rfl
  have hl : lv_has ls 3 [(0, .ref (b + 0)), (1, .int a1)] := hl
  exact xrv C hlk hr hP hS d_MO_forget_107 (by rw [f_MO_forget])
