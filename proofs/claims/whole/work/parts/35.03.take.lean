def g_MO_take_12 : Nat → XS → Int32 → Int32 → XS
  | 0, st, a1, x2 => st
  | n + 1, st, a1, x2 =>
    if (st 0 39 0) ≤ x2 then st
    else (g_MO_take_12 n (xu (xu (xu (xu (xu (xu (xu (xu st 36 x2.toNatClampNeg 0 (st 36 ((x2 + 1)).toNatClampNeg 0)) 37 x2.toNatClampNeg 0 (st 37 ((x2 + 1)).toNatClampNeg 0)) 38 x2.toNatClampNeg 0 (st 38 ((x2 + 1)).toNatClampNeg 0)) 39 x2.toNatClampNeg 0 (st 39 ((x2 + 1)).toNatClampNeg 0)) 40 x2.toNatClampNeg 0 (st 40 ((x2 + 1)).toNatClampNeg 0)) 41 x2.toNatClampNeg 0 (st 41 ((x2 + 1)).toNatClampNeg 0)) 42 x2.toNatClampNeg 0 (st 42 ((x2 + 1)).toNatClampNeg 0)) 43 x2.toNatClampNeg 0 (st 43 ((x2 + 1)).toNatClampNeg 0)) a1 (x2 + 1))
set_option maxRecDepth 100000 in
set_option maxHeartbeats 4000000 in
theorem w_MO_take_12 (l : Launch) (D : va_G) (cA : Nat → ClassId) (b : Nat) (a1 : Int32) {p : Program} {e : Env} {s : State} {m : MethodId} {below : List Frame} {meth : Method} {c : Code} {Q : State → Prop} (C : xCx p s m ([.ref (b + 0), .int a1] : List Value).toArray c b_MO_take y_MO_take.cls D cA) (hml : c.maxLocals = 3) {stE : XS} (kx : ∀ (H1 : Heap) (locs1 : List Loc) (ls1 : Array Slot), xP mw D cA b stE H1 → va_S (xA mw b) s.heap H1 locs1 → lv_has ls1 3 [(0, .ref (b + 0)), (1, .int a1)] → W p l e { frames := 0, cells := 0, slots := 0, locals := 0 } s m ([.ref (b + 0), .int a1] : List Value).toArray below meth c H1 locs1 0 0 Q (F0 m 138 ls1 [])) : ∀ (n : Nat) (st : XS) (x2 : Int32) (H : Heap) (locs : List Loc) (ls : Array Slot), lpi 63 n x2 → (st 0 39 0).toInt ≤ (63 : Nat) → lv_has ls 3 [(0, .ref (b + 0)), (1, .int a1), (2, .int x2)] → xP mw D cA b st H → va_S (xA mw b) s.heap H locs → g_MO_take_12 n st a1 x2 = stE → W p l e { frames := 0, cells := 0, slots := 0, locals := 0 } s m ([.ref (b + 0), .int a1] : List Value).toArray below meth c H locs 0 0 Q (F0 m 12 ls []) := by
  intro n
  induction n with
  | zero =>
    intro st x2 H locs ls hx
    exact absurd hx (fun h => lpi_no h)
  | succ n ih =>
    intro st x2 H locs ls hx hi hl hP hS hg
    refine lv_iload_n C.1 C.2.1 d_MO_take_12 rfl (lv_at hl 2 rfl) ?_
    refine lv_aload_n C.1 C.2.1 d_MO_take_13 rfl (lv_at hl 0 rfl) ?_
    refine xget C hP o_MO rfl c_MO (k := 39) (v := .int (st 0 39 0)) (by decide) wg_916 rfl d_MO_take_14 ?_
    refine lv_icmp_ge (tgt := 138) C.1 C.2.1 d_MO_take_17 (by decide) (fun h1 => ?_) (fun h1 => ?_)
    · rw [g_MO_take_12, if_pos h1] at hg
      subst hg
      exact kx _ _ ls hP hS (lv_sub hl [0, 1] rfl)
    · refine lv_aload_n C.1 C.2.1 d_MO_take_20 rfl (lv_at hl 0 rfl) ?_
      refine xget C hP o_MO rfl c_MO (k := 40) (v := .ref (b + 36)) (by decide) wg_917 rfl d_MO_take_21 ?_
      refine lv_iload_n C.1 C.2.1 d_MO_take_24 rfl (lv_at hl 2 rfl) ?_
      refine lv_aload_n C.1 C.2.1 d_MO_take_25 rfl (lv_at hl 0 rfl) ?_
      refine xget C hP o_MO rfl c_MO (k := 40) (v := .ref (b + 36)) (by decide) wg_917 rfl d_MO_take_26 ?_
      refine lv_iload_n C.1 C.2.1 d_MO_take_29 rfl (lv_at hl 2 rfl) ?_
      refine lv_iconst (v := 1) C.1 C.2.1 d_MO_take_30 (by decide) ?_
      refine lv_iadd C.1 C.2.1 d_MO_take_31 ?_
      refine xiald C hP om_36 rfl (v := (st 36 ((x2 + 1)).toNatClampNeg 0)) (lpi_ix1 hx (lpi_c hx h1 hi)) rfl d_MO_take_32 ?_
      refine xiast mw_inj C hP hS om_36 rfl (lpi_ix hx (lpi_c hx h1 hi) (by decide)) rfl d_MO_take_33 (fun H locs hP hS => ?_)
      refine lv_aload_n C.1 C.2.1 d_MO_take_34 rfl (lv_at hl 0 rfl) ?_
      refine xget C hP o_MO rfl c_MO (k := 41) (v := .ref (b + 37)) (by decide) wg_918 rfl d_MO_take_35 ?_
      refine lv_iload_n C.1 C.2.1 d_MO_take_38 rfl (lv_at hl 2 rfl) ?_
      refine lv_aload_n C.1 C.2.1 d_MO_take_39 rfl (lv_at hl 0 rfl) ?_
      refine xget C hP o_MO rfl c_MO (k := 41) (v := .ref (b + 37)) (by decide) wg_918 rfl d_MO_take_40 ?_
      refine lv_iload_n C.1 C.2.1 d_MO_take_43 rfl (lv_at hl 2 rfl) ?_
      refine lv_iconst (v := 1) C.1 C.2.1 d_MO_take_44 (by decide) ?_
      refine lv_iadd C.1 C.2.1 d_MO_take_45 ?_
      refine xiald C hP om_37 rfl (v := (st 37 ((x2 + 1)).toNatClampNeg 0)) (lpi_ix1 hx (lpi_c hx h1 hi)) (congrArg Value.int (xu_a (by decide))) d_MO_take_46 ?_
      refine xiast mw_inj C hP hS om_37 rfl (lpi_ix hx (lpi_c hx h1 hi) (by decide)) rfl d_MO_take_47 (fun H locs hP hS => ?_)
      refine lv_aload_n C.1 C.2.1 d_MO_take_48 rfl (lv_at hl 0 rfl) ?_
      refine xget C hP o_MO rfl c_MO (k := 42) (v := .ref (b + 38)) (by decide) wg_919 rfl d_MO_take_49 ?_
      refine lv_iload_n C.1 C.2.1 d_MO_take_52 rfl (lv_at hl 2 rfl) ?_
      refine lv_aload_n C.1 C.2.1 d_MO_take_53 rfl (lv_at hl 0 rfl) ?_
      refine xget C hP o_MO rfl c_MO (k := 42) (v := .ref (b + 38)) (by decide) wg_919 rfl d_MO_take_54 ?_
      refine lv_iload_n C.1 C.2.1 d_MO_take_57 rfl (lv_at hl 2 rfl) ?_
      refine lv_iconst (v := 1) C.1 C.2.1 d_MO_take_58 (by decide) ?_
      refine lv_iadd C.1 C.2.1 d_MO_take_59 ?_
      refine xiald C hP om_38 rfl (v := (st 38 ((x2 + 1)).toNatClampNeg 0)) (lpi_ix1 hx (lpi_c hx h1 hi)) (congrArg Value.int (Eq.trans (xu_a (by decide)) (xu_a (by decide)))) d_MO_take_60 ?_
      refine xiast mw_inj C hP hS om_38 rfl (lpi_ix hx (lpi_c hx h1 hi) (by decide)) rfl d_MO_take_61 (fun H locs hP hS => ?_)
      refine lv_aload_n C.1 C.2.1 d_MO_take_62 rfl (lv_at hl 0 rfl) ?_
      refine xget C hP o_MO rfl c_MO (k := 43) (v := .ref (b + 39)) (by decide) wg_920 rfl d_MO_take_63 ?_
      refine lv_iload_n C.1 C.2.1 d_MO_take_66 rfl (lv_at hl 2 rfl) ?_
      refine lv_aload_n C.1 C.2.1 d_MO_take_67 rfl (lv_at hl 0 rfl) ?_
      refine xget C hP o_MO rfl c_MO (k := 43) (v := .ref (b + 39)) (by decide) wg_920 rfl d_MO_take_68 ?_
      refine lv_iload_n C.1 C.2.1 d_MO_take_71 rfl (lv_at hl 2 rfl) ?_
      refine lv_iconst (v := 1) C.1 C.2.1 d_MO_take_72 (by decide) ?_
      refine lv_iadd C.1 C.2.1 d_MO_take_73 ?_
      refine xiald C hP om_39 rfl (v := (st 39 ((x2 + 1)).toNatClampNeg 0)) (lpi_ix1 hx (lpi_c hx h1 hi)) (congrArg Value.int (Eq.trans (xu_a (by decide)) (Eq.trans (xu_a (by decide)) (xu_a (by decide))))) d_MO_take_74 ?_
      refine xiast mw_inj C hP hS om_39 rfl (lpi_ix hx (lpi_c hx h1 hi) (by decide)) rfl d_MO_take_75 (fun H locs hP hS => ?_)
      refine lv_aload_n C.1 C.2.1 d_MO_take_76 rfl (lv_at hl 0 rfl) ?_
      refine xget C hP o_MO rfl c_MO (k := 44) (v := .ref (b + 40)) (by decide) wg_921 rfl d_MO_take_77 ?_
      refine lv_iload_n C.1 C.2.1 d_MO_take_80 rfl (lv_at hl 2 rfl) ?_
      refine lv_aload_n C.1 C.2.1 d_MO_take_81 rfl (lv_at hl 0 rfl) ?_
      refine xget C hP o_MO rfl c_MO (k := 44) (v := .ref (b + 40)) (by decide) wg_921 rfl d_MO_take_82 ?_
      refine lv_iload_n C.1 C.2.1 d_MO_take_85 rfl (lv_at hl 2 rfl) ?_
      refine lv_iconst (v := 1) C.1 C.2.1 d_MO_take_86 (by decide) ?_
      refine lv_iadd C.1 C.2.1 d_MO_take_87 ?_
      refine xiald C hP om_40 rfl (v := (st 40 ((x2 + 1)).toNatClampNeg 0)) (lpi_ix1 hx (lpi_c hx h1 hi)) (congrArg Value.int (Eq.trans (xu_a (by decide)) (Eq.trans (xu_a (by decide)) (Eq.trans (xu_a (by decide)) (xu_a (by decide)))))) d_MO_take_88 ?_
      refine xiast mw_inj C hP hS om_40 rfl (lpi_ix hx (lpi_c hx h1 hi) (by decide)) rfl d_MO_take_89 (fun H locs hP hS => ?_)
      refine lv_aload_n C.1 C.2.1 d_MO_take_90 rfl (lv_at hl 0 rfl) ?_
      refine xget C hP o_MO rfl c_MO (k := 45) (v := .ref (b + 41)) (by decide) wg_922 rfl d_MO_take_91 ?_
      refine lv_iload_n C.1 C.2.1 d_MO_take_94 rfl (lv_at hl 2 rfl) ?_
      refine lv_aload_n C.1 C.2.1 d_MO_take_95 rfl (lv_at hl 0 rfl) ?_
      refine xget C hP o_MO rfl c_MO (k := 45) (v := .ref (b + 41)) (by decide) wg_922 rfl d_MO_take_96 ?_
      refine lv_iload_n C.1 C.2.1 d_MO_take_99 rfl (lv_at hl 2 rfl) ?_
      refine lv_iconst (v := 1) C.1 C.2.1 d_MO_take_100 (by decide) ?_
      refine lv_iadd C.1 C.2.1 d_MO_take_101 ?_
      refine xiald C hP om_41 rfl (v := (st 41 ((x2 + 1)).toNatClampNeg 0)) (lpi_ix1 hx (lpi_c hx h1 hi)) (congrArg Value.int (Eq.trans (xu_a (by decide)) (Eq.trans (xu_a (by decide)) (Eq.trans (xu_a (by decide)) (Eq.trans (xu_a (by decide)) (xu_a (by decide))))))) d_MO_take_102 ?_
      refine xiast mw_inj C hP hS om_41 rfl (lpi_ix hx (lpi_c hx h1 hi) (by decide)) rfl d_MO_take_103 (fun H locs hP hS => ?_)
      refine lv_aload_n C.1 C.2.1 d_MO_take_104 rfl (lv_at hl 0 rfl) ?_
      refine xget C hP o_MO rfl c_MO (k := 46) (v := .ref (b + 42)) (by decide) wg_923 rfl d_MO_take_105 ?_
      refine lv_iload_n C.1 C.2.1 d_MO_take_108 rfl (lv_at hl 2 rfl) ?_
      refine lv_aload_n C.1 C.2.1 d_MO_take_109 rfl (lv_at hl 0 rfl) ?_
      refine xget C hP o_MO rfl c_MO (k := 46) (v := .ref (b + 42)) (by decide) wg_923 rfl d_MO_take_110 ?_
      refine lv_iload_n C.1 C.2.1 d_MO_take_113 rfl (lv_at hl 2 rfl) ?_
      refine lv_iconst (v := 1) C.1 C.2.1 d_MO_take_114 (by decide) ?_
      refine lv_iadd C.1 C.2.1 d_MO_take_115 ?_
      refine xiald C hP om_42 rfl (v := (st 42 ((x2 + 1)).toNatClampNeg 0)) (lpi_ix1 hx (lpi_c hx h1 hi)) (congrArg Value.int (Eq.trans (xu_a (by decide)) (Eq.trans (xu_a (by decide)) (Eq.trans (xu_a (by decide)) (Eq.trans (xu_a (by decide)) (Eq.trans (xu_a (by decide)) (xu_a (by decide)))))))) d_MO_take_116 ?_
      refine xiast mw_inj C hP hS om_42 rfl (lpi_ix hx (lpi_c hx h1 hi) (by decide)) rfl d_MO_take_117 (fun H locs hP hS => ?_)
      refine lv_aload_n C.1 C.2.1 d_MO_take_118 rfl (lv_at hl 0 rfl) ?_
      refine xget C hP o_MO rfl c_MO (k := 47) (v := .ref (b + 43)) (by decide) wg_924 rfl d_MO_take_119 ?_
      refine lv_iload_n C.1 C.2.1 d_MO_take_122 rfl (lv_at hl 2 rfl) ?_
      refine lv_aload_n C.1 C.2.1 d_MO_take_123 rfl (lv_at hl 0 rfl) ?_
      refine xget C hP o_MO rfl c_MO (k := 47) (v := .ref (b + 43)) (by decide) wg_924 rfl d_MO_take_124 ?_
      refine lv_iload_n C.1 C.2.1 d_MO_take_127 rfl (lv_at hl 2 rfl) ?_
      refine lv_iconst (v := 1) C.1 C.2.1 d_MO_take_128 (by decide) ?_
      refine lv_iadd C.1 C.2.1 d_MO_take_129 ?_
      refine xiald C hP om_43 rfl (v := (st 43 ((x2 + 1)).toNatClampNeg 0)) (lpi_ix1 hx (lpi_c hx h1 hi)) (congrArg Value.int (Eq.trans (xu_a (by decide)) (Eq.trans (xu_a (by decide)) (Eq.trans (xu_a (by decide)) (Eq.trans (xu_a (by decide)) (Eq.trans (xu_a (by decide)) (Eq.trans (xu_a (by decide)) (xu_a (by decide))))))))) d_MO_take_130 ?_
      refine xiast mw_inj C hP hS om_43 rfl (lpi_ix hx (lpi_c hx h1 hi) (by decide)) rfl d_MO_take_131 (fun H locs hP hS => ?_)
      refine lv_iinc (v := (x2 + 1)) C.1 C.2.1 d_MO_take_132 hl (k := 2) rfl rfl (by decide) rfl (fun ls hl => ?_)
      have hl : lv_has ls 3 [(2, .int (x2 + 1)), (0, .ref (b + 0)), (1, .int a1)] := hl
      refine lv_goto (tgt := 12) C.1 C.2.1 d_MO_take_135 (by decide) ?_
      rw [g_MO_take_12, if_neg h1] at hg
      exact ih _ _ _ _ ls (lpi_nx hx (lpi_c hx h1 hi) (by decide)) (by rw [xu_a (by decide), xu_a (by decide), xu_a (by decide), xu_a (by decide), xu_a (by decide), xu_a (by decide), xu_a (by decide), xu_a (by decide)]; exact hi) (lv_sub hl [1, 2, 0] rfl) hP hS hg
theorem fr_MO_take_12 {a' k' i' : Nat} (h : (a', k') ∉ ([] : List (Nat × Nat))) (h2 : a' ∉ ([36, 37, 38, 39, 40, 41, 42, 43] : List Nat)) : ∀ (n : Nat) (st : XS) (a1 : Int32) (x2 : Int32), (g_MO_take_12 n st a1 x2) a' k' i' = st a' k' i' := by
  intro n
  induction n with
  | zero => intro st a1 x2; rfl
  | succ n ih =>
    intro st a1 x2
    unfold g_MO_take_12
    repeat' split
    all_goals (try dsimp only)
    all_goals (repeat (first | with_reducible rfl | rw [xu_f (fun e => h (by rw [e]; decide))] | rw [xu_a (fun e => h2 (by rw [e]; decide))] | rw [ih]))
theorem pg_MO_take_12 (n : Nat) (st : XS) (a1 : Int32) (x2 : Int32) (h : qok st) : qok (g_MO_take_12 n st a1 x2) := qok_of h (fr_MO_take_12 (by decide) (by decide) _ _ _ _ )
def f_MO_take (st : XS) (a1 : Int32) : XS :=
  (g_MO_take_12 64 (xu st 0 39 0 ((st 0 39 0) - 1)) a1 a1)
set_option maxRecDepth 100000 in
set_option maxHeartbeats 4000000 in
theorem fr_MO_take {st : XS} {a1 : Int32} {a' k' i' : Nat} (h : (a', k') ∉ ([(0, 39)] : List (Nat × Nat))) (h2 : a' ∉ ([36, 37, 38, 39, 40, 41, 42, 43] : List Nat)) : (f_MO_take st a1) a' k' i' = st a' k' i' := by
  unfold f_MO_take
  repeat' split
  all_goals (try dsimp only)
  all_goals (repeat (first | with_reducible rfl | rw [xu_f (fun e => h (by rw [e]; decide))] | rw [xu_a (fun e => h2 (by rw [e]; decide))] | rw [fr_MO_take_12 (fun q => h ((by decide : ∀ z ∈ ([] : List (Nat × Nat)), z ∈ ([(0, 39)] : List (Nat × Nat))) _ q)) (fun q => h2 ((by decide : ∀ z ∈ ([36, 37, 38, 39, 40, 41, 42, 43] : List Nat), z ∈ ([36, 37, 38, 39, 40, 41, 42, 43] : List Nat)) _ q))]))
set_option maxRecDepth 100000 in
set_option maxHeartbeats 4000000 in
theorem k_MO_take (l : Launch) (D : va_G) (cA : Nat → ClassId) (b : Nat) (st : XS) (a1 : Int32) (hq : qok st) (h0 : 0 ≤ a1.toInt) (h1 : a1.toInt < (st 0 39 0).toInt) : xMv mw D cA b l y_MO_take (Cond.code y_MO_take b_MO_take 3 none) { frames := 0, cells := 0, slots := 0, locals := 0 } st [.ref (b + 0), .int a1] (f_MO_take st a1) := by
  refine xMv_of rfl (by decide) (Nat.le_of_ble_eq_true rfl) ?_
  intro p e s m below meth c ls C hlk hr hml hl hP hS
  have hl : lv_has ls 3 [(0, .ref (b + 0)), (1, .int a1)] := hl
  refine lv_aload_n C.1 C.2.1 d_MO_take_0 rfl (lv_at hl 0 rfl) ?_
  refine lv_dup C.1 C.2.1 d_MO_take_1 rfl ?_
  refine xget C hP o_MO rfl c_MO (k := 39) (v := .int (st 0 39 0)) (by decide) wg_916 rfl d_MO_take_2 ?_
  refine lv_iconst (v := 1) C.1 C.2.1 d_MO_take_5 (by decide) ?_
  refine lv_isub C.1 C.2.1 d_MO_take_6 ?_
  refine xput mw_inj C hP hS o_MO rfl c_MO (k := 39) (x := ((st 0 39 0) - 1)) (by decide) wg_916 rfl rfl rfl rfl d_MO_take_7 (fun H locs hP hS => ?_)
  refine lv_iload_n C.1 C.2.1 d_MO_take_10 rfl (lv_at hl 1 rfl) ?_
  refine lv_istore_n C.1 C.2.1 d_MO_take_11 rfl hl (by decide) rfl (fun ls hl => ?_)
  have hl : lv_has ls 3 [(2, .int a1), (0, .ref (b + 0)), (1, .int a1)] := hl
  refine w_MO_take_12 l D cA b a1 C hml  (fun H locs ls hP hS hl => ?_) 64 (xu st 0 39 0 ((st 0 39 0) - 1)) a1 _ _ ls (tk_st hq h0 h1) (by rw [xu_s]; exact tk_iv hq h0 h1) (lv_sub hl [1, 2, 0] rfl) hP hS rfl
  have hl : lv_has ls 3 [(0, .ref (b + 0)), (1, .int a1)] := hl
  exact xrv C hlk hr hP hS d_MO_take_138 (by rw [f_MO_take])
