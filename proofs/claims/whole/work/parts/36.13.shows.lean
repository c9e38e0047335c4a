def g_MO_shows_3 : Nat → XS → Int32 → Int32 → Int32 → Int32 → Int32 → Int32 → Int32 → XS
  | 0, st, a1, a2, a3, a4, a5, a6, x7 => st
  | n + 1, st, a1, a2, a3, a4, a5, a6, x7 =>
    if (st 0 48 0) ≤ x7 then st
    else if (st 44 x7.toNatClampNeg 0) = a2 then (if (st 45 x7.toNatClampNeg 0) = a3 then (if (st 46 x7.toNatClampNeg 0) = a6 then (if a1 ≤ (st 47 x7.toNatClampNeg 0) then (g_MO_shows_3 n st a1 a2 a3 a4 a5 a6 (x7 + 1))
          else (g_MO_shows_3 n (xu (xu (xu (xu st 47 x7.toNatClampNeg 0 a1) 48 x7.toNatClampNeg 0 a4) 49 x7.toNatClampNeg 0 a5) 50 x7.toNatClampNeg 0 (st 0 1 0)) a1 a2 a3 a4 a5 a6 (x7 + 1)))
        else (g_MO_shows_3 n st a1 a2 a3 a4 a5 a6 (x7 + 1)))
      else (g_MO_shows_3 n st a1 a2 a3 a4 a5 a6 (x7 + 1)))
    else (g_MO_shows_3 n st a1 a2 a3 a4 a5 a6 (x7 + 1))
set_option maxRecDepth 100000 in
set_option maxHeartbeats 4000000 in
theorem w_MO_shows_3 (l : Launch) (D : va_G) (cA : Nat → ClassId) (b : Nat) (a1 : Int32) (a2 : Int32) (a3 : Int32) (a4 : Int32) (a5 : Int32) (a6 : Int32) {p : Program} {e : Env} {s : State} {m : MethodId} {below : List Frame} {meth : Method} {c : Code} {Q : State → Prop} (C : xCx p s m ([.ref (b + 0), .int a1, .int a2, .int a3, .int a4, .int a5, .int a6] : List Value).toArray c b_MO_shows y_MO_shows.cls D cA) (hml : c.maxLocals = 8) {stE : XS} (kx : ∀ (H1 : Heap) (locs1 : List Loc) (ls1 : Array Slot), xP mw D cA b stE H1 → va_S (xA mw b) s.heap H1 locs1 → lv_has ls1 8 [(0, .ref (b + 0)), (1, .int a1), (2, .int a2), (3, .int a3), (4, .int a4), (5, .int a5), (6, .int a6)] → W p l e { frames := 0, cells := 0, slots := 0, locals := 0 } s m ([.ref (b + 0), .int a1, .int a2, .int a3, .int a4, .int a5, .int a6] : List Value).toArray below meth c H1 locs1 0 0 Q (F0 m 100 ls1 [])) : ∀ (n : Nat) (st : XS) (x7 : Int32) (H : Heap) (locs : List Loc) (ls : Array Slot), lpi 16 n x7 → (st 0 48 0).toInt ≤ (16 : Nat) → lv_has ls 8 [(0, .ref (b + 0)), (1, .int a1), (2, .int a2), (3, .int a3), (4, .int a4), (5, .int a5), (6, .int a6), (7, .int x7)] → xP mw D cA b st H → va_S (xA mw b) s.heap H locs → g_MO_shows_3 n st a1 a2 a3 a4 a5 a6 x7 = stE → W p l e { frames := 0, cells := 0, slots := 0, locals := 0 } s m ([.ref (b + 0), .int a1, .int a2, .int a3, .int a4, .int a5, .int a6] : List Value).toArray below meth c H locs 0 0 Q (F0 m 3 ls []) := by
  intro n
  induction n with
  | zero =>
    intro st x7 H locs ls hx
    exact absurd hx (fun h => lpi_no h)
  | succ n ih =>
    intro st x7 H locs ls hx hi hl hP hS hg
    refine lv_iload C.1 C.2.1 d_MO_shows_3 (lv_at hl 7 rfl) ?_
    refine lv_aload_n C.1 C.2.1 d_MO_shows_5 rfl (lv_at hl 0 rfl) ?_
    refine xget C hP o_MO rfl c_MO (k := 48) (v := .int (st 0 48 0)) (by decide) wg_925 rfl d_MO_shows_6 ?_
    refine lv_icmp_ge (tgt := 100) C.1 C.2.1 d_MO_shows_9 (by decide) (fun h1 => ?_) (fun h1 => ?_)
    · rw [g_MO_shows_3, if_pos h1] at hg
      subst hg
      exact kx _ _ ls hP hS (lv_sub hl [0, 1, 2, 3, 4, 5, 6] rfl)
    · refine lv_aload_n C.1 C.2.1 d_MO_shows_12 rfl (lv_at hl 0 rfl) ?_
      refine xget C hP o_MO rfl c_MO (k := 49) (v := .ref (b + 44)) (by decide) wg_926 rfl d_MO_shows_13 ?_
      refine lv_iload C.1 C.2.1 d_MO_shows_16 (lv_at hl 7 rfl) ?_
      refine xiald C hP om_44 rfl (v := (st 44 x7.toNatClampNeg 0)) (lpi_ix hx (lpi_c hx h1 hi) (by decide)) rfl d_MO_shows_18 ?_
      refine lv_iload_n C.1 C.2.1 d_MO_shows_19 rfl (lv_at hl 2 rfl) ?_
      refine lv_icmp_ne (tgt := 94) C.1 C.2.1 d_MO_shows_20 (by decide) (fun h2 => ?_) (fun h2 => ?_)
      · refine lv_iinc (v := (x7 + 1)) C.1 C.2.1 d_MO_shows_94 hl (k := 7) rfl rfl (by decide) rfl (fun ls hl => ?_)
        have hl : lv_has ls 8 [(7, .int (x7 + 1)), (0, .ref (b + 0)), (1, .int a1), (2, .int a2), (3, .int a3), (4, .int a4), (5, .int a5), (6, .int a6)] := hl
        refine lv_goto (tgt := 3) C.1 C.2.1 d_MO_shows_97 (by decide) ?_
        rw [g_MO_shows_3, if_neg h1, if_neg h2] at hg
        exact ih _ _ _ _ ls (lpi_nx hx (lpi_c hx h1 hi) (by decide)) hi (lv_sub hl [1, 2, 3, 4, 5, 6, 7, 0] rfl) hP hS hg
      · refine lv_aload_n C.1 C.2.1 d_MO_shows_23 rfl (lv_at hl 0 rfl) ?_
        refine xget C hP o_MO rfl c_MO (k := 50) (v := .ref (b + 45)) (by decide) wg_927 rfl d_MO_shows_24 ?_
        refine lv_iload C.1 C.2.1 d_MO_shows_27 (lv_at hl 7 rfl) ?_
        refine xiald C hP om_45 rfl (v := (st 45 x7.toNatClampNeg 0)) (lpi_ix hx (lpi_c hx h1 hi) (by decide)) rfl d_MO_shows_29 ?_
        refine lv_iload_n C.1 C.2.1 d_MO_shows_30 rfl (lv_at hl 3 rfl) ?_
        refine lv_icmp_ne (tgt := 94) C.1 C.2.1 d_MO_shows_31 (by decide) (fun h3 => ?_) (fun h3 => ?_)
        · refine lv_iinc (v := (x7 + 1)) C.1 C.2.1 d_MO_shows_94 hl (k := 7) rfl rfl (by decide) rfl (fun ls hl => ?_)
          have hl : lv_has ls 8 [(7, .int (x7 + 1)), (0, .ref (b + 0)), (1, .int a1), (2, .int a2), (3, .int a3), (4, .int a4), (5, .int a5), (6, .int a6)] := hl
          refine lv_goto (tgt := 3) C.1 C.2.1 d_MO_shows_97 (by decide) ?_
          rw [g_MO_shows_3, if_neg h1, if_pos h2, if_neg h3] at hg
          exact ih _ _ _ _ ls (lpi_nx hx (lpi_c hx h1 hi) (by decide)) hi (lv_sub hl [1, 2, 3, 4, 5, 6, 7, 0] rfl) hP hS hg
        · refine lv_aload_n C.1 C.2.1 d_MO_shows_34 rfl (lv_at hl 0 rfl) ?_
          refine xget C hP o_MO rfl c_MO (k := 51) (v := .ref (b + 46)) (by decide) wg_928 rfl d_MO_shows_35 ?_
          refine lv_iload C.1 C.2.1 d_MO_shows_38 (lv_at hl 7 rfl) ?_
          refine xiald C hP om_46 rfl (v := (st 46 x7.toNatClampNeg 0)) (lpi_ix hx (lpi_c hx h1 hi) (by decide)) rfl d_MO_shows_40 ?_
          refine lv_iload C.1 C.2.1 d_MO_shows_41 (lv_at hl 6 rfl) ?_
          refine lv_icmp_ne (tgt := 94) C.1 C.2.1 d_MO_shows_43 (by decide) (fun h4 => ?_) (fun h4 => ?_)
          · refine lv_iinc (v := (x7 + 1)) C.1 C.2.1 d_MO_shows_94 hl (k := 7) rfl rfl (by decide) rfl (fun ls hl => ?_)
            have hl : lv_has ls 8 [(7, .int (x7 + 1)), (0, .ref (b + 0)), (1, .int a1), (2, .int a2), (3, .int a3), (4, .int a4), (5, .int a5), (6, .int a6)] := hl
            refine lv_goto (tgt := 3) C.1 C.2.1 d_MO_shows_97 (by decide) ?_
            rw [g_MO_shows_3, if_neg h1, if_pos h2, if_pos h3, if_neg h4] at hg
            exact ih _ _ _ _ ls (lpi_nx hx (lpi_c hx h1 hi) (by decide)) hi (lv_sub hl [1, 2, 3, 4, 5, 6, 7, 0] rfl) hP hS hg
          · refine lv_iload_n C.1 C.2.1 d_MO_shows_46 rfl (lv_at hl 1 rfl) ?_
            refine lv_aload_n C.1 C.2.1 d_MO_shows_47 rfl (lv_at hl 0 rfl) ?_
            refine xget C hP o_MO rfl c_MO (k := 52) (v := .ref (b + 47)) (by decide) wg_929 rfl d_MO_shows_48 ?_
            refine lv_iload C.1 C.2.1 d_MO_shows_51 (lv_at hl 7 rfl) ?_
            refine xiald C hP om_47 rfl (v := (st 47 x7.toNatClampNeg 0)) (lpi_ix hx (lpi_c hx h1 hi) (by decide)) rfl d_MO_shows_53 ?_
            refine lv_icmp_le (tgt := 94) C.1 C.2.1 d_MO_shows_54 (by decide) (fun h5 => ?_) (fun h5 => ?_)
            · refine lv_iinc (v := (x7 + 1)) C.1 C.2.1 d_MO_shows_94 hl (k := 7) rfl rfl (by decide) rfl (fun ls hl => ?_)
              have hl : lv_has ls 8 [(7, .int (x7 + 1)), (0, .ref (b + 0)), (1, .int a1), (2, .int a2), (3, .int a3), (4, .int a4), (5, .int a5), (6, .int a6)] := hl
              refine lv_goto (tgt := 3) C.1 C.2.1 d_MO_shows_97 (by decide) ?_
              rw [g_MO_shows_3, if_neg h1, if_pos h2, if_pos h3, if_pos h4, if_pos h5] at hg
              exact ih _ _ _ _ ls (lpi_nx hx (lpi_c hx h1 hi) (by decide)) hi (lv_sub hl [1, 2, 3, 4, 5, 6, 7, 0] rfl) hP hS hg
            · refine lv_aload_n C.1 C.2.1 d_MO_shows_57 rfl (lv_at hl 0 rfl) ?_
              refine xget C hP o_MO rfl c_MO (k := 52) (v := .ref (b + 47)) (by decide) wg_929 rfl d_MO_shows_58 ?_
              refine lv_iload C.1 C.2.1 d_MO_shows_61 (lv_at hl 7 rfl) ?_
              refine lv_iload_n C.1 C.2.1 d_MO_shows_63 rfl (lv_at hl 1 rfl) ?_
              refine xiast mw_inj C hP hS om_47 rfl (lpi_ix hx (lpi_c hx h1 hi) (by decide)) rfl d_MO_shows_64 (fun H locs hP hS => ?_)
              refine lv_aload_n C.1 C.2.1 d_MO_shows_65 rfl (lv_at hl 0 rfl) ?_
              refine xget C hP o_MO rfl c_MO (k := 53) (v := .ref (b + 48)) (by decide) wg_930 rfl d_MO_shows_66 ?_
              refine lv_iload C.1 C.2.1 d_MO_shows_69 (lv_at hl 7 rfl) ?_
              refine lv_iload C.1 C.2.1 d_MO_shows_71 (lv_at hl 4 rfl) ?_
              refine xiast mw_inj C hP hS om_48 rfl (lpi_ix hx (lpi_c hx h1 hi) (by decide)) rfl d_MO_shows_73 (fun H locs hP hS => ?_)
              refine lv_aload_n C.1 C.2.1 d_MO_shows_74 rfl (lv_at hl 0 rfl) ?_
              refine xget C hP o_MO rfl c_MO (k := 54) (v := .ref (b + 49)) (by decide) wg_931 rfl d_MO_shows_75 ?_
              refine lv_iload C.1 C.2.1 d_MO_shows_78 (lv_at hl 7 rfl) ?_
              refine lv_iload C.1 C.2.1 d_MO_shows_80 (lv_at hl 5 rfl) ?_
              refine xiast mw_inj C hP hS om_49 rfl (lpi_ix hx (lpi_c hx h1 hi) (by decide)) rfl d_MO_shows_82 (fun H locs hP hS => ?_)
              refine lv_aload_n C.1 C.2.1 d_MO_shows_83 rfl (lv_at hl 0 rfl) ?_
              refine xget C hP o_MO rfl c_MO (k := 55) (v := .ref (b + 50)) (by decide) wg_932 rfl d_MO_shows_84 ?_
              refine lv_iload C.1 C.2.1 d_MO_shows_87 (lv_at hl 7 rfl) ?_
              refine lv_aload_n C.1 C.2.1 d_MO_shows_89 rfl (lv_at hl 0 rfl) ?_
              refine xget C hP o_MO rfl c_MO (k := 1) (v := .int (st 0 1 0)) (by decide) wg_878 (congrArg Value.int (Eq.trans (xu_a (by decide)) (Eq.trans (xu_a (by decide)) (xu_a (by decide))))) d_MO_shows_90 ?_
              refine xiast mw_inj C hP hS om_50 rfl (lpi_ix hx (lpi_c hx h1 hi) (by decide)) rfl d_MO_shows_93 (fun H locs hP hS => ?_)
              refine lv_iinc (v := (x7 + 1)) C.1 C.2.1 d_MO_shows_94 hl (k := 7) rfl rfl (by decide) rfl (fun ls hl => ?_)
              have hl : lv_has ls 8 [(7, .int (x7 + 1)), (0, .ref (b + 0)), (1, .int a1), (2, .int a2), (3, .int a3), (4, .int a4), (5, .int a5), (6, .int a6)] := hl
              refine lv_goto (tgt := 3) C.1 C.2.1 d_MO_shows_97 (by decide) ?_
              rw [g_MO_shows_3, if_neg h1, if_pos h2, if_pos h3, if_pos h4, if_neg h5] at hg
              exact ih _ _ _ _ ls (lpi_nx hx (lpi_c hx h1 hi) (by decide)) (by rw [xu_a (by decide), xu_a (by decide), xu_a (by decide), xu_a (by decide)]; exact hi) (lv_sub hl [1, 2, 3, 4, 5, 6, 7, 0] rfl) hP hS hg
theorem fr_MO_shows_3 {a' k' i' : Nat} (h : (a', k') ∉ ([] : List (Nat × Nat))) (h2 : a' ∉ ([47, 48, 49, 50] : List Nat)) : ∀ (n : Nat) (st : XS) (a1 : Int32) (a2 : Int32) (a3 : Int32) (a4 : Int32) (a5 : Int32) (a6 : Int32) (x7 : Int32), (g_MO_shows_3 n st a1 a2 a3 a4 a5 a6 x7) a' k' i' = st a' k' i' := by
  intro n
  induction n with
  | zero => intro st a1 a2 a3 a4 a5 a6 x7; rfl
  | succ n ih =>
    intro st a1 a2 a3 a4 a5 a6 x7
    unfold g_MO_shows_3
    repeat' split
    all_goals (try dsimp only)
    all_goals (repeat (first | with_reducible rfl | rw [xu_f (fun e => h (by rw [e]; decide))] | rw [xu_a (fun e => h2 (by rw [e]; decide))] | rw [ih]))
theorem pg_MO_shows_3 (n : Nat) (st : XS) (a1 : Int32) (a2 : Int32) (a3 : Int32) (a4 : Int32) (a5 : Int32) (a6 : Int32) (x7 : Int32) (h : qok st) : qok (g_MO_shows_3 n st a1 a2 a3 a4 a5 a6 x7) := qok_of h (fr_MO_shows_3 (by decide) (by decide) _ _ _ _ _ _ _ _ _ )
def f_MO_shows (st : XS) (a1 : Int32) (a2 : Int32) (a3 : Int32) (a4 : Int32) (a5 : Int32) (a6 : Int32) : XS :=
  (g_MO_shows_3 17 st a1 a2 a3 a4 a5 a6 0)
set_option maxRecDepth 100000 in
set_option maxHeartbeats 4000000 in
theorem fr_MO_shows {st : XS} {a1 : Int32} {a2 : Int32} {a3 : Int32} {a4 : Int32} {a5 : Int32} {a6 : Int32} {a' k' i' : Nat} (h : (a', k') ∉ ([] : List (Nat × Nat))) (h2 : a' ∉ ([47, 48, 49, 50] : List Nat)) : (f_MO_shows st a1 a2 a3 a4 a5 a6) a' k' i' = st a' k' i' := by
  unfold f_MO_shows
  repeat' split
  all_goals (try dsimp only)
  all_goals (repeat (first | with_reducible rfl | rw [xu_f (fun e => h (by rw [e]; decide))] | rw [xu_a (fun e => h2 (by rw [e]; decide))] | rw [fr_MO_shows_3 (fun q => h ((by decide : ∀ z ∈ ([] : List (Nat × Nat)), z ∈ ([] : List (Nat × Nat))) _ q)) (fun q => h2 ((by decide : ∀ z ∈ ([47, 48, 49, 50] : List Nat), z ∈ ([47, 48, 49, 50] : List Nat)) _ q))]))
theorem p_MO_shows {st : XS} {a1 : Int32} {a2 : Int32} {a3 : Int32} {a4 : Int32} {a5 : Int32} {a6 : Int32} (h : qok st) : qok (f_MO_shows st a1 a2 a3 a4 a5 a6) := qok_of h (fr_MO_shows (by decide) (by decide))
set_option maxRecDepth 100000 in
set_option maxHeartbeats 4000000 in
theorem k_MO_shows (l : Launch) (D : va_G) (cA : Nat → ClassId) (b : Nat) (st : XS) (a1 : Int32) (a2 : Int32) (a3 : Int32) (a4 : Int32) (a5 : Int32) (a6 : Int32) (hh : (st 0 48 0).toInt ≤ (16 : Nat)) : xMv mw D cA b l y_MO_shows (Cond.code y_MO_shows b_MO_shows 8 none) { frames := 0, cells := 0, slots := 0, locals := 0 } st [.ref (b + 0), .int a1, .int a2, .int a3, .int a4, .int a5, .int a6] (f_MO_shows st a1 a2 a3 a4 a5 a6) := by
  refine xMv_of rfl (by decide) (Nat.le_of_ble_eq_true rfl) ?_
  intro p e s m below meth c ls C hlk hr hml hl hP hS
  have hl : lv_has ls 8 [(0, .ref (b + 0)), (1, .int a1), (2, .int a2), (3, .int a3), (4, .int a4), (5, .int a5), (6, .int a6)] := hl
  refine lv_iconst (v := 0) C.1 C.2.1 d_MO_shows_0 (by decide) ?_
  refine lv_istore C.1 C.2.1 d_MO_shows_1 hl (by decide) rfl (fun ls hl => ?_)
  have hl : lv_has ls 8 [(7, .int 0), (0, .ref (b + 0)), (1, .int a1), (2, .int a2), (3, .int a3), (4, .int a4), (5, .int a5), (6, .int a6)] := hl
  refine w_MO_shows_3 l D cA b a1 a2 a3 a4 a5 a6 C hml  (fun H locs ls hP hS hl => ?_) 17 st 0 _ _ ls lpi_st hh (lv_sub hl [1, 2, 3, 4, 5, 6, 7, 0] rfl) hP hS rfl
  have hl : lv_has ls 8 [(0, .ref (b + 0)), (1, .int a1), (2, .int a2), (3, .int a3), (4, .int a4), (5, .int a5), (6, .int a6)] := hl
  exact xrv C hlk hr hP hS d_MO_shows_100 (by rw [f_MO_shows])
