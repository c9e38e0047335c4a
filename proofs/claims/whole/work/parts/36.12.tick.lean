def g_MO_tick_67 : Nat → XS → Int32 → Int32 → Int32 → Int32 → XS
  | 0, st, a1, x2, x3, x4 => st
  | n + 1, st, a1, x2, x3, x4 =>
    if (st 5 x3.toNatClampNeg 0) ≤ x4 then st
    else if (st 6 x3.toNatClampNeg 0) = 0 then st
    else if (bz (st 24 (((4 * x3) + x4)).toNatClampNeg 0)) = 0 then (g_MO_tick_67 n st a1 x2 x3 (x4 + 1))
    else if ((st 0 1 0) - (st 27 (((4 * x3) + x4)).toNatClampNeg 0)) < 1000 then (g_MO_tick_67 n st a1 x2 x3 (x4 + 1))
    else (g_MO_tick_67 n (f_MO_sendValue st x3 x4) a1 x2 x3 (x4 + 1))
set_option maxRecDepth 100000 in
set_option maxHeartbeats 4000000 in
theorem w_MO_tick_67 (l : Launch) (D : va_G) (cA : Nat → ClassId) (b : Nat) (a1 : Int32) (x2 : Int32) (x3 : Int32) (hx3 : vp_in x3 8) {p : Program} {e : Env} {s : State} {m : MethodId} {below : List Frame} {meth : Method} {c : Code} {Q : State → Prop} (C : xCx p s m ([.ref (b + 0), .int a1] : List Value).toArray c b_MO_tick y_MO_tick.cls D cA) (hml : c.maxLocals = 5) {stE : XS} (kx : ∀ (H1 : Heap) (locs1 : List Loc) (ls1 : Array Slot), xP mw D cA b stE H1 → va_S (xA mw b) s.heap H1 locs1 → lv_has ls1 5 [(0, .ref (b + 0)), (1, .int a1), (2, .int x2), (3, .int x3)] → W p l e { frames := 3, cells := 0, slots := 0, locals := 65 } s m ([.ref (b + 0), .int a1] : List Value).toArray below meth c H1 locs1 0 0 Q (F0 m 136 ls1 [])) : ∀ (n : Nat) (st : XS) (x4 : Int32) (H : Heap) (locs : List Loc) (ls : Array Slot), lpi 4 n x4 → qok st ∧ cok st → lv_has ls 5 [(0, .ref (b + 0)), (1, .int a1), (2, .int x2), (3, .int x3), (4, .int x4)] → xP mw D cA b st H → va_S (xA mw b) s.heap H locs → g_MO_tick_67 n st a1 x2 x3 x4 = stE → W p l e { frames := 3, cells := 0, slots := 0, locals := 65 } s m ([.ref (b + 0), .int a1] : List Value).toArray below meth c H locs 0 0 Q (F0 m 67 ls []) := by
  intro n
  induction n with
  | zero =>
    intro st x4 H locs ls hx
    exact absurd hx (fun h => lpi_no h)
  | succ n ih =>
    intro st x4 H locs ls hx hi hl hP hS hg
    refine lv_iload C.1 C.2.1 d_MO_tick_67 (lv_at hl 4 rfl) ?_
    refine lv_aload_n C.1 C.2.1 d_MO_tick_69 rfl (lv_at hl 0 rfl) ?_
    refine xget C hP o_MO rfl c_MO (k := 8) (v := .ref (b + 5)) (by decide) wg_885 rfl d_MO_tick_70 ?_
    refine lv_iload_n C.1 C.2.1 d_MO_tick_73 rfl (lv_at hl 3 rfl) ?_
    refine xiald C hP om_5 rfl (v := (st 5 x3.toNatClampNeg 0)) hx3 rfl d_MO_tick_74 ?_
    refine lv_icmp_ge (tgt := 136) C.1 C.2.1 d_MO_tick_75 (by decide) (fun h1 => ?_) (fun h1 => ?_)
    · rw [g_MO_tick_67, if_pos h1] at hg
      subst hg
      exact kx _ _ ls hP hS (lv_sub hl [0, 1, 2, 3] rfl)
    · refine lv_aload_n C.1 C.2.1 d_MO_tick_78 rfl (lv_at hl 0 rfl) ?_
      refine xget C hP o_MO rfl c_MO (k := 9) (v := .ref (b + 6)) (by decide) wg_886 rfl d_MO_tick_79 ?_
      refine lv_iload_n C.1 C.2.1 d_MO_tick_82 rfl (lv_at hl 3 rfl) ?_
      refine xiald C hP om_6 rfl (v := (st 6 x3.toNatClampNeg 0)) hx3 rfl d_MO_tick_83 ?_
      refine lv_if_eq (tgt := 136) C.1 C.2.1 d_MO_tick_84 (by decide) (fun h2 => ?_) (fun h2 => ?_)
      · rw [g_MO_tick_67, if_neg h1, if_pos h2] at hg
        subst hg
        exact kx _ _ ls hP hS (lv_sub hl [0, 1, 2, 3] rfl)
      · refine lv_aload_n C.1 C.2.1 d_MO_tick_87 rfl (lv_at hl 0 rfl) ?_
        refine xget C hP o_MO rfl c_MO (k := 27) (v := .ref (b + 24)) (by decide) wg_904 rfl d_MO_tick_88 ?_
        refine lv_iconst (v := 4) C.1 C.2.1 d_MO_tick_91 (by decide) ?_
        refine lv_iload_n C.1 C.2.1 d_MO_tick_92 rfl (lv_at hl 3 rfl) ?_
        refine lv_imul C.1 C.2.1 d_MO_tick_93 ?_
        refine lv_iload C.1 C.2.1 d_MO_tick_94 (lv_at hl 4 rfl) ?_
        refine lv_iadd C.1 C.2.1 d_MO_tick_96 ?_
        refine xzald C hP om_24 rfl (v := (bz (st 24 (((4 * x3) + x4)).toNatClampNeg 0))) (ix4 hx3 (lpi_ix hx (lpi_c hx h1 (hi.2 _ (xin_lt hx3)).2) (by decide))) rfl d_MO_tick_97 ?_
        refine lv_if_eq (tgt := 130) C.1 C.2.1 d_MO_tick_98 (by decide) (fun h3 => ?_) (fun h3 => ?_)
        · refine lv_iinc (v := (x4 + 1)) C.1 C.2.1 d_MO_tick_130 hl (k := 4) rfl rfl (by decide) rfl (fun ls hl => ?_)
          have hl : lv_has ls 5 [(4, .int (x4 + 1)), (0, .ref (b + 0)), (1, .int a1), (2, .int x2), (3, .int x3)] := hl
          refine lv_goto (tgt := 67) C.1 C.2.1 d_MO_tick_133 (by decide) ?_
          rw [g_MO_tick_67, if_neg h1, if_neg h2, if_pos h3] at hg
          exact ih _ _ _ _ ls (lpi_nx hx (lpi_c hx h1 (hi.2 _ (xin_lt hx3)).2) (by decide)) ⟨hi.1, hi.2⟩ (lv_sub hl [1, 2, 3, 4, 0] rfl) hP hS hg
        · refine lv_aload_n C.1 C.2.1 d_MO_tick_101 rfl (lv_at hl 0 rfl) ?_
          refine xget C hP o_MO rfl c_MO (k := 1) (v := .int (st 0 1 0)) (by decide) wg_878 rfl d_MO_tick_102 ?_
          refine lv_aload_n C.1 C.2.1 d_MO_tick_105 rfl (lv_at hl 0 rfl) ?_
          refine xget C hP o_MO rfl c_MO (k := 30) (v := .ref (b + 27)) (by decide) wg_907 rfl d_MO_tick_106 ?_
          refine lv_iconst (v := 4) C.1 C.2.1 d_MO_tick_109 (by decide) ?_
          refine lv_iload_n C.1 C.2.1 d_MO_tick_110 rfl (lv_at hl 3 rfl) ?_
          refine lv_imul C.1 C.2.1 d_MO_tick_111 ?_
          refine lv_iload C.1 C.2.1 d_MO_tick_112 (lv_at hl 4 rfl) ?_
          refine lv_iadd C.1 C.2.1 d_MO_tick_114 ?_
          refine xiald C hP om_27 rfl (v := (st 27 (((4 * x3) + x4)).toNatClampNeg 0)) (ix4 hx3 (lpi_ix hx (lpi_c hx h1 (hi.2 _ (xin_lt hx3)).2) (by decide))) rfl d_MO_tick_115 ?_
          refine lv_isub C.1 C.2.1 d_MO_tick_116 ?_
          refine lv_sipush (v := 1000) C.1 C.2.1 d_MO_tick_117 (by decide) ?_
          refine lv_icmp_lt (tgt := 130) C.1 C.2.1 d_MO_tick_120 (by decide) (fun h4 => ?_) (fun h4 => ?_)
          · refine lv_iinc (v := (x4 + 1)) C.1 C.2.1 d_MO_tick_130 hl (k := 4) rfl rfl (by decide) rfl (fun ls hl => ?_)
            have hl : lv_has ls 5 [(4, .int (x4 + 1)), (0, .ref (b + 0)), (1, .int a1), (2, .int x2), (3, .int x3)] := hl
            refine lv_goto (tgt := 67) C.1 C.2.1 d_MO_tick_133 (by decide) ?_
            rw [g_MO_tick_67, if_neg h1, if_neg h2, if_neg h3, if_pos h4] at hg
            exact ih _ _ _ _ ls (lpi_nx hx (lpi_c hx h1 (hi.2 _ (xin_lt hx3)).2) (by decide)) ⟨hi.1, hi.2⟩ (lv_sub hl [1, 2, 3, 4, 0] rfl) hP hS hg
          · refine lv_aload_n C.1 C.2.1 d_MO_tick_123 rfl (lv_at hl 0 rfl) ?_
            refine lv_iload_n C.1 C.2.1 d_MO_tick_124 rfl (lv_at hl 3 rfl) ?_
            refine lv_iload C.1 C.2.1 d_MO_tick_125 (lv_at hl 4 rfl) ?_
            refine xcVv (rest := []) C hml hl.1 (k_MO_sendValue l D cA b st x3 x4 hi.1 hx3 (lpi_ix hx (lpi_c hx h1 (hi.2 _ (xin_lt hx3)).2) (by decide))) q_MO_sendValue rfl rfl wg_1154 wg_1156 ws_61 ⟨Nat.le_of_ble_eq_true rfl, Nat.le_of_ble_eq_true rfl⟩ hP hS o_MO rfl c_MO rfl (Nat.le_of_ble_eq_true rfl) d_MO_tick_127 rfl (fun H locs hP hS => ?_)
            refine lv_iinc (v := (x4 + 1)) C.1 C.2.1 d_MO_tick_130 hl (k := 4) rfl rfl (by decide) rfl (fun ls hl => ?_)
            have hl : lv_has ls 5 [(4, .int (x4 + 1)), (0, .ref (b + 0)), (1, .int a1), (2, .int x2), (3, .int x3)] := hl
            refine lv_goto (tgt := 67) C.1 C.2.1 d_MO_tick_133 (by decide) ?_
            rw [g_MO_tick_67, if_neg h1, if_neg h2, if_neg h3, if_neg h4] at hg
            exact ih _ _ _ _ ls (lpi_nx hx (lpi_c hx h1 (hi.2 _ (xin_lt hx3)).2) (by decide)) ⟨(p_MO_sendValue hi.1), (cok_of hi.2 (fun _ => fr_MO_sendValue (by simp) (by decide)))⟩ (lv_sub hl [1, 2, 3, 4, 0] rfl) hP hS hg
theorem fr_MO_tick_67 {a' k' i' : Nat} (h : (a', k') ∉ ([(0, 2), (0, 3), (0, 39)] : List (Nat × Nat))) (h2 : a' ∉ ([27, 36, 37, 38, 39, 40, 41, 42, 43] : List Nat)) : ∀ (n : Nat) (st : XS) (a1 : Int32) (x2 : Int32) (x3 : Int32) (x4 : Int32), (g_MO_tick_67 n st a1 x2 x3 x4) a' k' i' = st a' k' i' := by
  intro n
  induction n with
  | zero => intro st a1 x2 x3 x4; rfl
  | succ n ih =>
    intro st a1 x2 x3 x4
    unfold g_MO_tick_67
    repeat' split
    all_goals (try dsimp only)
    all_goals (repeat (first | with_reducible rfl | rw [xu_f (fun e => h (by rw [e]; decide))] | rw [xu_a (fun e => h2 (by rw [e]; decide))] | rw [fr_MO_sendValue (fun q => h ((by decide : ∀ z ∈ ([(0, 2), (0, 3), (0, 39)] : List (Nat × Nat)), z ∈ ([(0, 2), (0, 3), (0, 39)] : List (Nat × Nat))) _ q)) (fun q => h2 ((by decide : ∀ z ∈ ([27, 36, 37, 38, 39, 40, 41, 42, 43] : List Nat), z ∈ ([27, 36, 37, 38, 39, 40, 41, 42, 43] : List Nat)) _ q))] | rw [ih]))
theorem pg_MO_tick_67 : ∀ (n : Nat) (st : XS) (a1 : Int32) (x2 : Int32) (x3 : Int32) (x4 : Int32), qok st → qok (g_MO_tick_67 n st a1 x2 x3 x4) := by
  intro n
  induction n with
  | zero => intro st a1 x2 x3 x4 h; exact h
  | succ n ih =>
    intro st a1 x2 x3 x4 h
    unfold g_MO_tick_67
    repeat' split
    all_goals (try dsimp only)
    all_goals (repeat (first | with_reducible refine ih _ _ _ _ _ ?_ | with_reducible assumption | with_reducible refine p_MO_sendValue ?_ | with_reducible refine qok_xa ?_ (by decide) | with_reducible refine qok_xu ?_ ?_ | decide))
def g_MO_tick_58 : Nat → XS → Int32 → Int32 → Int32 → XS
  | 0, st, a1, x2, x3 => st
  | n + 1, st, a1, x2, x3 =>
    if 8 ≤ x3 then st
    else (g_MO_tick_58 n (g_MO_tick_67 5 st a1 x2 x3 0) a1 x2 (x3 + 1))
set_option maxRecDepth 100000 in
set_option maxHeartbeats 4000000 in
theorem w_MO_tick_58 (l : Launch) (D : va_G) (cA : Nat → ClassId) (b : Nat) (a1 : Int32) (x2 : Int32) {p : Program} {e : Env} {s : State} {m : MethodId} {below : List Frame} {meth : Method} {c : Code} {Q : State → Prop} (C : xCx p s m ([.ref (b + 0), .int a1] : List Value).toArray c b_MO_tick y_MO_tick.cls D cA) (hml : c.maxLocals = 5) {stE : XS} (kx : ∀ (H1 : Heap) (locs1 : List Loc) (ls1 : Array Slot), xP mw D cA b stE H1 → va_S (xA mw b) s.heap H1 locs1 → lv_has ls1 5 [(0, .ref (b + 0)), (1, .int a1), (2, .int x2)] → W p l e { frames := 3, cells := 0, slots := 0, locals := 65 } s m ([.ref (b + 0), .int a1] : List Value).toArray below meth c H1 locs1 0 0 Q (F0 m 142 ls1 [])) : ∀ (n : Nat) (st : XS) (x3 : Int32) (H : Heap) (locs : List Loc) (ls : Array Slot), lpi 8 n x3 → qok st ∧ cok st → lv_has ls 5 [(0, .ref (b + 0)), (1, .int a1), (2, .int x2), (3, .int x3)] → xP mw D cA b st H → va_S (xA mw b) s.heap H locs → g_MO_tick_58 n st a1 x2 x3 = stE → W p l e { frames := 3, cells := 0, slots := 0, locals := 65 } s m ([.ref (b + 0), .int a1] : List Value).toArray below meth c H locs 0 0 Q (F0 m 58 ls []) := by
  intro n
  induction n with
  | zero =>
    intro st x3 H locs ls hx
    exact absurd hx (fun h => lpi_no h)
  | succ n ih =>
    intro st x3 H locs ls hx hi hl hP hS hg
    refine lv_iload_n C.1 C.2.1 d_MO_tick_58 rfl (lv_at hl 3 rfl) ?_
    refine lv_bipush (v := 8) C.1 C.2.1 d_MO_tick_59 (by decide) ?_
    refine lv_icmp_ge (tgt := 142) C.1 C.2.1 d_MO_tick_61 (by decide) (fun h1 => ?_) (fun h1 => ?_)
    · rw [g_MO_tick_58, if_pos h1] at hg
      subst hg
      exact kx _ _ ls hP hS (lv_sub hl [0, 1, 2] rfl)
    · refine lv_iconst (v := 0) C.1 C.2.1 d_MO_tick_64 (by decide) ?_
      refine lv_istore C.1 C.2.1 d_MO_tick_65 hl (by decide) rfl (fun ls hl => ?_)
      have hl : lv_has ls 5 [(4, .int 0), (0, .ref (b + 0)), (1, .int a1), (2, .int x2), (3, .int x3)] := hl
      refine w_MO_tick_67 l D cA b a1 x2 x3 (lpi_ix hx (lpi_c hx h1 i32_8) (by decide)) C hml  (fun H locs ls hP hS hl => ?_) 5 st 0 _ _ ls lpi_st hi (lv_sub hl [1, 2, 3, 4, 0] rfl) hP hS rfl
      have hl : lv_has ls 5 [(0, .ref (b + 0)), (1, .int a1), (2, .int x2), (3, .int x3)] := hl
      refine lv_iinc (v := (x3 + 1)) C.1 C.2.1 d_MO_tick_136 hl (k := 3) rfl rfl (by decide) rfl (fun ls hl => ?_)
      have hl : lv_has ls 5 [(3, .int (x3 + 1)), (0, .ref (b + 0)), (1, .int a1), (2, .int x2)] := hl
      refine lv_goto (tgt := 58) C.1 C.2.1 d_MO_tick_139 (by decide) ?_
      rw [g_MO_tick_58, if_neg h1] at hg
      exact ih _ _ _ _ ls (lpi_nx hx (lpi_c hx h1 i32_8) (by decide)) ⟨(pg_MO_tick_67 _ _ _ _ _ _ hi.1), (cok_of hi.2 (fun _ => fr_MO_tick_67 (by simp) (by decide) _ _ _ _ _ _))⟩ (lv_sub hl [1, 2, 3, 0] rfl) hP hS hg
theorem fr_MO_tick_58 {a' k' i' : Nat} (h : (a', k') ∉ ([(0, 2), (0, 3), (0, 39)] : List (Nat × Nat))) (h2 : a' ∉ ([27, 36, 37, 38, 39, 40, 41, 42, 43] : List Nat)) : ∀ (n : Nat) (st : XS) (a1 : Int32) (x2 : Int32) (x3 : Int32), (g_MO_tick_58 n st a1 x2 x3) a' k' i' = st a' k' i' := by
  intro n
  induction n with
  | zero => intro st a1 x2 x3; rfl
  | succ n ih =>
    intro st a1 x2 x3
    unfold g_MO_tick_58
    repeat' split
    all_goals (try dsimp only)
    all_goals (repeat (first | with_reducible rfl | rw [xu_f (fun e => h (by rw [e]; decide))] | rw [xu_a (fun e => h2 (by rw [e]; decide))] | rw [fr_MO_sendValue (fun q => h ((by decide : ∀ z ∈ ([(0, 2), (0, 3), (0, 39)] : List (Nat × Nat)), z ∈ ([(0, 2), (0, 3), (0, 39)] : List (Nat × Nat))) _ q)) (fun q => h2 ((by decide : ∀ z ∈ ([27, 36, 37, 38, 39, 40, 41, 42, 43] : List Nat), z ∈ ([27, 36, 37, 38, 39, 40, 41, 42, 43] : List Nat)) _ q))] | rw [fr_MO_tick_67 (fun q => h ((by decide : ∀ z ∈ ([(0, 2), (0, 3), (0, 39)] : List (Nat × Nat)), z ∈ ([(0, 2), (0, 3), (0, 39)] : List (Nat × Nat))) _ q)) (fun q => h2 ((by decide : ∀ z ∈ ([27, 36, 37, 38, 39, 40, 41, 42, 43] : List Nat), z ∈ ([27, 36, 37, 38, 39, 40, 41, 42, 43] : List Nat)) _ q))] | rw [ih]))
theorem pg_MO_tick_58 : ∀ (n : Nat) (st : XS) (a1 : Int32) (x2 : Int32) (x3 : Int32), qok st → qok (g_MO_tick_58 n st a1 x2 x3) := by
  intro n
  induction n with
  | zero => intro st a1 x2 x3 h; exact h
  | succ n ih =>
    intro st a1 x2 x3 h
    unfold g_MO_tick_58
    repeat' split
    all_goals (try dsimp only)
    all_goals (repeat (first | with_reducible refine ih _ _ _ _ ?_ | with_reducible assumption | with_reducible refine p_MO_sendValue ?_ | with_reducible refine pg_MO_tick_67 _ _ _ _ _ _ ?_ | with_reducible refine qok_xa ?_ (by decide) | with_reducible refine qok_xu ?_ ?_ | decide))
def g_MO_tick_148 : Nat → XS → Int32 → Int32 → Int32 → XS
  | 0, st, a1, x2, x3 => st
  | n + 1, st, a1, x2, x3 =>
    if 8 ≤ x3 then st
    else if (f_MO_knowsLoud st x3) = 0 then (g_MO_tick_148 n st a1 x2 (x3 + 1))
    else if ((st 0 1 0) - (st 35 x3.toNatClampNeg 0)) < 1000 then (g_MO_tick_148 n st a1 x2 (x3 + 1))
    else (g_MO_tick_148 n (f_MO_sendSounds st x3) a1 x2 (x3 + 1))
set_option maxRecDepth 100000 in
set_option maxHeartbeats 4000000 in
theorem w_MO_tick_148 (l : Launch) (D : va_G) (cA : Nat → ClassId) (b : Nat) (a1 : Int32) (x2 : Int32) {p : Program} {e : Env} {s : State} {m : MethodId} {below : List Frame} {meth : Method} {c : Code} {Q : State → Prop} (C : xCx p s m ([.ref (b + 0), .int a1] : List Value).toArray c b_MO_tick y_MO_tick.cls D cA) (hml : c.maxLocals = 5) {stE : XS} (kx : ∀ (H1 : Heap) (locs1 : List Loc) (ls1 : Array Slot), xP mw D cA b stE H1 → va_S (xA mw b) s.heap H1 locs1 → lv_has ls1 5 [(0, .ref (b + 0)), (1, .int a1), (2, .int x2)] → W p l e { frames := 3, cells := 0, slots := 0, locals := 65 } s m ([.ref (b + 0), .int a1] : List Value).toArray below meth c H1 locs1 0 0 Q (F0 m 190 ls1 [])) : ∀ (n : Nat) (st : XS) (x3 : Int32) (H : Heap) (locs : List Loc) (ls : Array Slot), lpi 8 n x3 → qok st ∧ cok st → lv_has ls 5 [(0, .ref (b + 0)), (1, .int a1), (2, .int x2), (3, .int x3)] → xP mw D cA b st H → va_S (xA mw b) s.heap H locs → g_MO_tick_148 n st a1 x2 x3 = stE → W p l e { frames := 3, cells := 0, slots := 0, locals := 65 } s m ([.ref (b + 0), .int a1] : List Value).toArray below meth c H locs 0 0 Q (F0 m 148 ls []) := by
  intro n
  induction n with
  | zero =>
    intro st x3 H locs ls hx
    exact absurd hx (fun h => lpi_no h)
  | succ n ih =>
    intro st x3 H locs ls hx hi hl hP hS hg
    refine lv_iload_n C.1 C.2.1 d_MO_tick_148 rfl (lv_at hl 3 rfl) ?_
    refine lv_bipush (v := 8) C.1 C.2.1 d_MO_tick_149 (by decide) ?_
    refine lv_icmp_ge (tgt := 190) C.1 C.2.1 d_MO_tick_151 (by decide) (fun h1 => ?_) (fun h1 => ?_)
    · rw [g_MO_tick_148, if_pos h1] at hg
      subst hg
      exact kx _ _ ls hP hS (lv_sub hl [0, 1, 2] rfl)
    · refine lv_aload_n C.1 C.2.1 d_MO_tick_154 rfl (lv_at hl 0 rfl) ?_
      refine lv_iload_n C.1 C.2.1 d_MO_tick_155 rfl (lv_at hl 3 rfl) ?_
      refine xcVi (rest := []) C hml hl.1 (k_MO_knowsLoud l D cA b st x3 (lpi_ix hx (lpi_c hx h1 i32_8) (by decide))) q_MO_knowsLoud rfl rfl wg_1163 wg_1165 ws_62 ⟨Nat.le_of_ble_eq_true rfl, Nat.le_of_ble_eq_true rfl⟩ hP hS o_MO rfl c_MO rfl (Nat.le_of_ble_eq_true rfl) d_MO_tick_156 rfl (fun H locs hP hS => ?_)
      refine lv_if_eq (tgt := 184) C.1 C.2.1 d_MO_tick_159 (by decide) (fun h2 => ?_) (fun h2 => ?_)
      · refine lv_iinc (v := (x3 + 1)) C.1 C.2.1 d_MO_tick_184 hl (k := 3) rfl rfl (by decide) rfl (fun ls hl => ?_)
        have hl : lv_has ls 5 [(3, .int (x3 + 1)), (0, .ref (b + 0)), (1, .int a1), (2, .int x2)] := hl
        refine lv_goto (tgt := 148) C.1 C.2.1 d_MO_tick_187 (by decide) ?_
        rw [g_MO_tick_148, if_neg h1, if_pos h2] at hg
        exact ih _ _ _ _ ls (lpi_nx hx (lpi_c hx h1 i32_8) (by decide)) ⟨hi.1, hi.2⟩ (lv_sub hl [1, 2, 3, 0] rfl) hP hS hg
      · refine lv_aload_n C.1 C.2.1 d_MO_tick_162 rfl (lv_at hl 0 rfl) ?_
        refine xget C hP o_MO rfl c_MO (k := 1) (v := .int (st 0 1 0)) (by decide) wg_878 rfl d_MO_tick_163 ?_
        refine lv_aload_n C.1 C.2.1 d_MO_tick_166 rfl (lv_at hl 0 rfl) ?_
        refine xget C hP o_MO rfl c_MO (k := 38) (v := .ref (b + 35)) (by decide) wg_915 rfl d_MO_tick_167 ?_
        refine lv_iload_n C.1 C.2.1 d_MO_tick_170 rfl (lv_at hl 3 rfl) ?_
        refine xiald C hP om_35 rfl (v := (st 35 x3.toNatClampNeg 0)) (lpi_ix hx (lpi_c hx h1 i32_8) (by decide)) rfl d_MO_tick_171 ?_
        refine lv_isub C.1 C.2.1 d_MO_tick_172 ?_
        refine lv_sipush (v := 1000) C.1 C.2.1 d_MO_tick_173 (by decide) ?_
        refine lv_icmp_lt (tgt := 184) C.1 C.2.1 d_MO_tick_176 (by decide) (fun h3 => ?_) (fun h3 => ?_)
        · refine lv_iinc (v := (x3 + 1)) C.1 C.2.1 d_MO_tick_184 hl (k := 3) rfl rfl (by decide) rfl (fun ls hl => ?_)
          have hl : lv_has ls 5 [(3, .int (x3 + 1)), (0, .ref (b + 0)), (1, .int a1), (2, .int x2)] := hl
          refine lv_goto (tgt := 148) C.1 C.2.1 d_MO_tick_187 (by decide) ?_
          rw [g_MO_tick_148, if_neg h1, if_neg h2, if_pos h3] at hg
          exact ih _ _ _ _ ls (lpi_nx hx (lpi_c hx h1 i32_8) (by decide)) ⟨hi.1, hi.2⟩ (lv_sub hl [1, 2, 3, 0] rfl) hP hS hg
        · refine lv_aload_n C.1 C.2.1 d_MO_tick_179 rfl (lv_at hl 0 rfl) ?_
          refine lv_iload_n C.1 C.2.1 d_MO_tick_180 rfl (lv_at hl 3 rfl) ?_
          refine xcVv (rest := []) C hml hl.1 (k_MO_sendSounds l D cA b st x3 hi.1 (lpi_ix hx (lpi_c hx h1 i32_8) (by decide))) q_MO_sendSounds rfl rfl wg_1167 wg_1169 ws_63 ⟨Nat.le_of_ble_eq_true rfl, Nat.le_of_ble_eq_true rfl⟩ hP hS o_MO rfl c_MO rfl (Nat.le_of_ble_eq_true rfl) d_MO_tick_181 rfl (fun H locs hP hS => ?_)
          refine lv_iinc (v := (x3 + 1)) C.1 C.2.1 d_MO_tick_184 hl (k := 3) rfl rfl (by decide) rfl (fun ls hl => ?_)
          have hl : lv_has ls 5 [(3, .int (x3 + 1)), (0, .ref (b + 0)), (1, .int a1), (2, .int x2)] := hl
          refine lv_goto (tgt := 148) C.1 C.2.1 d_MO_tick_187 (by decide) ?_
          rw [g_MO_tick_148, if_neg h1, if_neg h2, if_neg h3] at hg
          exact ih _ _ _ _ ls (lpi_nx hx (lpi_c hx h1 i32_8) (by decide)) ⟨(p_MO_sendSounds hi.1), (cok_of hi.2 (fun _ => fr_MO_sendSounds (by simp) (by decide)))⟩ (lv_sub hl [1, 2, 3, 0] rfl) hP hS hg
theorem fr_MO_tick_148 {a' k' i' : Nat} (h : (a', k') ∉ ([(0, 2), (0, 3), (0, 39)] : List (Nat × Nat))) (h2 : a' ∉ ([35, 36, 37, 38, 39, 40, 41, 42, 43] : List Nat)) : ∀ (n : Nat) (st : XS) (a1 : Int32) (x2 : Int32) (x3 : Int32), (g_MO_tick_148 n st a1 x2 x3) a' k' i' = st a' k' i' := by
  intro n
  induction n with
  | zero => intro st a1 x2 x3; rfl
  | succ n ih =>
    intro st a1 x2 x3
    unfold g_MO_tick_148
    repeat' split
    all_goals (try dsimp only)
    all_goals (repeat (first | with_reducible rfl | rw [xu_f (fun e => h (by rw [e]; decide))] | rw [xu_a (fun e => h2 (by rw [e]; decide))] | rw [fr_MO_sendSounds (fun q => h ((by decide : ∀ z ∈ ([(0, 2), (0, 3), (0, 39)] : List (Nat × Nat)), z ∈ ([(0, 2), (0, 3), (0, 39)] : List (Nat × Nat))) _ q)) (fun q => h2 ((by decide : ∀ z ∈ ([35, 36, 37, 38, 39, 40, 41, 42, 43] : List Nat), z ∈ ([35, 36, 37, 38, 39, 40, 41, 42, 43] : List Nat)) _ q))] | rw [fr_MO_tick_67 (fun q => h ((by decide : ∀ z ∈ ([(0, 2), (0, 3), (0, 39)] : List (Nat × Nat)), z ∈ ([(0, 2), (0, 3), (0, 39)] : List (Nat × Nat))) _ q)) (fun q => h2 ((by decide : ∀ z ∈ ([27, 36, 37, 38, 39, 40, 41, 42, 43] : List Nat), z ∈ ([35, 36, 37, 38, 39, 40, 41, 42, 43] : List Nat)) _ q))] | rw [fr_MO_tick_58 (fun q => h ((by decide : ∀ z ∈ ([(0, 2), (0, 3), (0, 39)] : List (Nat × Nat)), z ∈ ([(0, 2), (0, 3), (0, 39)] : List (Nat × Nat))) _ q)) (fun q => h2 ((by decide : ∀ z ∈ ([27, 36, 37, 38, 39, 40, 41, 42, 43] : List Nat), z ∈ ([35, 36, 37, 38, 39, 40, 41, 42, 43] : List Nat)) _ q))] | rw [ih]))
theorem pg_MO_tick_148 : ∀ (n : Nat) (st : XS) (a1 : Int32) (x2 : Int32) (x3 : Int32), qok st → qok (g_MO_tick_148 n st a1 x2 x3) := by
  intro n
  induction n with
  | zero => intro st a1 x2 x3 h; exact h
  | succ n ih =>
    intro st a1 x2 x3 h
    unfold g_MO_tick_148
    repeat' split
    all_goals (try dsimp only)
    all_goals (repeat (first | with_reducible refine ih _ _ _ _ ?_ | with_reducible assumption | with_reducible refine p_MO_sendSounds ?_ | with_reducible refine pg_MO_tick_67 _ _ _ _ _ _ ?_ | with_reducible refine pg_MO_tick_58 _ _ _ _ _ ?_ | with_reducible refine qok_xa ?_ (by decide) | with_reducible refine qok_xu ?_ ?_ | decide))
def f_MO_tick (st : XS) (a1 : Int32) : XS × Int32 :=
  if a1 < 1 then ((xu st 0 0 0 1), 0)
  else if 10000 < a1 then ((xu st 0 0 0 1), 0)
  else if ((st 0 1 0) + a1) ≤ 1000000000 then ((g_MO_tick_148 9 (f_MO_settle (g_MO_tick_58 9 (xu (xu st 0 0 0 0) 0 1 0 ((st 0 1 0) + a1)) a1 (st 0 2 0) 0)) a1 (st 0 2 0) 0), (((g_MO_tick_148 9 (f_MO_settle (g_MO_tick_58 9 (xu (xu st 0 0 0 0) 0 1 0 ((st 0 1 0) + a1)) a1 (st 0 2 0) 0)) a1 (st 0 2 0) 0) 0 2 0) - (st 0 2 0)))
  else ((xu st 0 0 0 1), 0)
set_option maxRecDepth 100000 in
set_option maxHeartbeats 4000000 in
theorem fr_MO_tick {st : XS} {a1 : Int32} {a' k' i' : Nat} (h : (a', k') ∉ ([(0, 0), (0, 1), (0, 2), (0, 3), (0, 39)] : List (Nat × Nat))) (h2 : a' ∉ ([27, 30, 31, 32, 35, 36, 37, 38, 39, 40, 41, 42, 43] : List Nat)) : (f_MO_tick st a1).1 a' k' i' = st a' k' i' := by
  unfold f_MO_tick
  repeat' split
  all_goals (try dsimp only)
  all_goals (repeat (first | with_reducible rfl | rw [xu_f (fun e => h (by rw [e]; decide))] | rw [xu_a (fun e => h2 (by rw [e]; decide))] | rw [fr_MO_sendSounds (fun q => h ((by decide : ∀ z ∈ ([(0, 2), (0, 3), (0, 39)] : List (Nat × Nat)), z ∈ ([(0, 0), (0, 1), (0, 2), (0, 3), (0, 39)] : List (Nat × Nat))) _ q)) (fun q => h2 ((by decide : ∀ z ∈ ([35, 36, 37, 38, 39, 40, 41, 42, 43] : List Nat), z ∈ ([27, 30, 31, 32, 35, 36, 37, 38, 39, 40, 41, 42, 43] : List Nat)) _ q))] | rw [fr_MO_sendValue (fun q => h ((by decide : ∀ z ∈ ([(0, 2), (0, 3), (0, 39)] : List (Nat × Nat)), z ∈ ([(0, 0), (0, 1), (0, 2), (0, 3), (0, 39)] : List (Nat × Nat))) _ q)) (fun q => h2 ((by decide : ∀ z ∈ ([27, 36, 37, 38, 39, 40, 41, 42, 43] : List Nat), z ∈ ([27, 30, 31, 32, 35, 36, 37, 38, 39, 40, 41, 42, 43] : List Nat)) _ q))] | rw [fr_MO_settle (fun q => h ((by decide : ∀ z ∈ ([(0, 2), (0, 3), (0, 39)] : List (Nat × Nat)), z ∈ ([(0, 0), (0, 1), (0, 2), (0, 3), (0, 39)] : List (Nat × Nat))) _ q)) (fun q => h2 ((by decide : ∀ z ∈ ([30, 31, 32, 36, 37, 38, 39, 40, 41, 42, 43] : List Nat), z ∈ ([27, 30, 31, 32, 35, 36, 37, 38, 39, 40, 41, 42, 43] : List Nat)) _ q))] | rw [fr_MO_tick_67 (fun q => h ((by decide : ∀ z ∈ ([(0, 2), (0, 3), (0, 39)] : List (Nat × Nat)), z ∈ ([(0, 0), (0, 1), (0, 2), (0, 3), (0, 39)] : List (Nat × Nat))) _ q)) (fun q => h2 ((by decide : ∀ z ∈ ([27, 36, 37, 38, 39, 40, 41, 42, 43] : List Nat), z ∈ ([27, 30, 31, 32, 35, 36, 37, 38, 39, 40, 41, 42, 43] : List Nat)) _ q))] | rw [fr_MO_tick_58 (fun q => h ((by decide : ∀ z ∈ ([(0, 2), (0, 3), (0, 39)] : List (Nat × Nat)), z ∈ ([(0, 0), (0, 1), (0, 2), (0, 3), (0, 39)] : List (Nat × Nat))) _ q)) (fun q => h2 ((by decide : ∀ z ∈ ([27, 36, 37, 38, 39, 40, 41, 42, 43] : List Nat), z ∈ ([27, 30, 31, 32, 35, 36, 37, 38, 39, 40, 41, 42, 43] : List Nat)) _ q))] | rw [fr_MO_tick_148 (fun q => h ((by decide : ∀ z ∈ ([(0, 2), (0, 3), (0, 39)] : List (Nat × Nat)), z ∈ ([(0, 0), (0, 1), (0, 2), (0, 3), (0, 39)] : List (Nat × Nat))) _ q)) (fun q => h2 ((by decide : ∀ z ∈ ([35, 36, 37, 38, 39, 40, 41, 42, 43] : List Nat), z ∈ ([27, 30, 31, 32, 35, 36, 37, 38, 39, 40, 41, 42, 43] : List Nat)) _ q))]))
theorem p_MO_tick {st : XS} {a1 : Int32} (h : qok st) : qok (f_MO_tick st a1).1 := by
  unfold f_MO_tick
  repeat' split
  all_goals (try dsimp only)
  all_goals (repeat (first | with_reducible refine pg_MO_tick_148 _ _ _ _ _ ?_ | with_reducible refine pg_MO_tick_58 _ _ _ _ _ ?_ | with_reducible refine pg_MO_tick_67 _ _ _ _ _ _ ?_ | with_reducible assumption | with_reducible refine p_MO_sendSounds ?_ | with_reducible refine p_MO_sendValue ?_ | with_reducible refine p_MO_settle ?_ | with_reducible refine qok_xa ?_ (by decide) | with_reducible refine qok_xu ?_ ?_ | decide))
set_option maxRecDepth 100000 in
set_option maxHeartbeats 4000000 in
theorem k_MO_tick (l : Launch) (D : va_G) (cA : Nat → ClassId) (b : Nat) (st : XS) (a1 : Int32) (hq : qok st) (hc : cok st) : xMi mw D cA b l y_MO_tick (Cond.code y_MO_tick b_MO_tick 5 (some .int)) { frames := 3, cells := 0, slots := 0, locals := 65 } st [.ref (b + 0), .int a1] (f_MO_tick st a1).2 (f_MO_tick st a1).1 := by
  refine xMi_of rfl (by decide) (Nat.le_of_ble_eq_true rfl) ?_
  intro p e s m below meth c ls C hlk hr hml hl hP hS
  have hl : lv_has ls 5 [(0, .ref (b + 0)), (1, .int a1)] := hl
  refine lv_aload_n C.1 C.2.1 d_MO_tick_0 rfl (lv_at hl 0 rfl) ?_
  refine lv_iload_n C.1 C.2.1 d_MO_tick_1 rfl (lv_at hl 1 rfl) ?_
  refine lv_iconst (v := 1) C.1 C.2.1 d_MO_tick_2 (by decide) ?_
  refine lv_icmp_lt (tgt := 24) C.1 C.2.1 d_MO_tick_3 (by decide) (fun h1 => ?_) (fun h1 => ?_)
  · refine lv_iconst (v := 1) C.1 C.2.1 d_MO_tick_24 (by decide) ?_
    refine lv_goto (tgt := 29) C.1 C.2.1 d_MO_tick_25 (by decide) ?_
    refine xput mw_inj C hP hS o_MO rfl c_MO (k := 0) (x := 1) (by decide) wg_877 rfl rfl rfl rfl d_MO_tick_29 (fun H locs hP hS => ?_)
    refine lv_aload_n C.1 C.2.1 d_MO_tick_32 rfl (lv_at hl 0 rfl) ?_
    refine xget C hP o_MO rfl c_MO (k := 0) (v := .int 1) (by decide) wg_877 (congrArg Value.int xu_s) d_MO_tick_33 ?_
    refine lv_if_le (tgt := 41) C.1 C.2.1 d_MO_tick_36 (by decide) (fun h => absurd h (by decide)) (fun _ => ?_)
    refine lv_iconst (v := 0) C.1 C.2.1 d_MO_tick_39 (by decide) ?_
    exact xri C hlk hr hP hS d_MO_tick_40 ⟨by rw [f_MO_tick, if_pos h1], by rw [f_MO_tick, if_pos h1]⟩
  · refine lv_iload_n C.1 C.2.1 d_MO_tick_6 rfl (lv_at hl 1 rfl) ?_
    refine lv_sipush (v := 10000) C.1 C.2.1 d_MO_tick_7 (by decide) ?_
    refine lv_icmp_gt (tgt := 24) C.1 C.2.1 d_MO_tick_10 (by decide) (fun h2 => ?_) (fun h2 => ?_)
    · refine lv_iconst (v := 1) C.1 C.2.1 d_MO_tick_24 (by decide) ?_
      refine lv_goto (tgt := 29) C.1 C.2.1 d_MO_tick_25 (by decide) ?_
      refine xput mw_inj C hP hS o_MO rfl c_MO (k := 0) (x := 1) (by decide) wg_877 rfl rfl rfl rfl d_MO_tick_29 (fun H locs hP hS => ?_)
      refine lv_aload_n C.1 C.2.1 d_MO_tick_32 rfl (lv_at hl 0 rfl) ?_
      refine xget C hP o_MO rfl c_MO (k := 0) (v := .int 1) (by decide) wg_877 (congrArg Value.int xu_s) d_MO_tick_33 ?_
      refine lv_if_le (tgt := 41) C.1 C.2.1 d_MO_tick_36 (by decide) (fun h => absurd h (by decide)) (fun _ => ?_)
      refine lv_iconst (v := 0) C.1 C.2.1 d_MO_tick_39 (by decide) ?_
      exact xri C hlk hr hP hS d_MO_tick_40 ⟨by rw [f_MO_tick, if_neg h1, if_pos h2], by rw [f_MO_tick, if_neg h1, if_pos h2]⟩
    · refine lv_aload_n C.1 C.2.1 d_MO_tick_13 rfl (lv_at hl 0 rfl) ?_
      refine xget C hP o_MO rfl c_MO (k := 1) (v := .int (st 0 1 0)) (by decide) wg_878 rfl d_MO_tick_14 ?_
      refine lv_iload_n C.1 C.2.1 d_MO_tick_17 rfl (lv_at hl 1 rfl) ?_
      refine lv_iadd C.1 C.2.1 d_MO_tick_18 ?_
      refine lv_ldc (v := 1000000000) C.1 C.2.1 C.2.2.1 (C.2.2.2.1 _ wg_1162) d_MO_tick_19 ?_
      refine lv_icmp_le (tgt := 28) C.1 C.2.1 d_MO_tick_21 (by decide) (fun h3 => ?_) (fun h3 => ?_)
      · refine lv_iconst (v := 0) C.1 C.2.1 d_MO_tick_28 (by decide) ?_
        refine xput mw_inj C hP hS o_MO rfl c_MO (k := 0) (x := 0) (by decide) wg_877 rfl rfl rfl rfl d_MO_tick_29 (fun H locs hP hS => ?_)
        refine lv_aload_n C.1 C.2.1 d_MO_tick_32 rfl (lv_at hl 0 rfl) ?_
        refine xget C hP o_MO rfl c_MO (k := 0) (v := .int 0) (by decide) wg_877 (congrArg Value.int xu_s) d_MO_tick_33 ?_
        refine lv_if_le (tgt := 41) C.1 C.2.1 d_MO_tick_36 (by decide) (fun _ => ?_) (fun h => absurd (by decide) h)
        refine lv_aload_n C.1 C.2.1 d_MO_tick_41 rfl (lv_at hl 0 rfl) ?_
        refine xget C hP o_MO rfl c_MO (k := 2) (v := .int (st 0 2 0)) (by decide) wg_879 (congrArg Value.int (xu_f (by decide))) d_MO_tick_42 ?_
        refine lv_istore_n C.1 C.2.1 d_MO_tick_45 rfl hl (by decide) rfl (fun ls hl => ?_)
        have hl : lv_has ls 5 [(2, .int (st 0 2 0)), (0, .ref (b + 0)), (1, .int a1)] := hl
        refine lv_aload_n C.1 C.2.1 d_MO_tick_46 rfl (lv_at hl 1 rfl) ?_
        refine lv_dup C.1 C.2.1 d_MO_tick_47 rfl ?_
        refine xget C hP o_MO rfl c_MO (k := 1) (v := .int (st 0 1 0)) (by decide) wg_878 (congrArg Value.int (xu_f (by decide))) d_MO_tick_48 ?_
        refine lv_iload_n C.1 C.2.1 d_MO_tick_51 rfl (lv_at hl 2 rfl) ?_
        refine lv_iadd C.1 C.2.1 d_MO_tick_52 ?_
        refine xput mw_inj C hP hS o_MO rfl c_MO (k := 1) (x := ((st 0 1 0) + a1)) (by decide) wg_878 rfl rfl rfl rfl d_MO_tick_53 (fun H locs hP hS => ?_)
        refine lv_iconst (v := 0) C.1 C.2.1 d_MO_tick_56 (by decide) ?_
        refine lv_istore_n C.1 C.2.1 d_MO_tick_57 rfl hl (by decide) rfl (fun ls hl => ?_)
        have hl : lv_has ls 5 [(3, .int 0), (2, .int (st 0 2 0)), (0, .ref (b + 0)), (1, .int a1)] := hl
        refine w_MO_tick_58 l D cA b a1 (st 0 2 0) C hml  (fun H locs ls hP hS hl => ?_) 9 (xu (xu st 0 0 0 0) 0 1 0 ((st 0 1 0) + a1)) 0 _ _ ls lpi_st ⟨(qok_xu (qok_xu hq (by decide)) (by decide)), (cok_of (cok_of hc (fun _ => xu_a (by decide))) (fun _ => xu_a (by decide)))⟩ (lv_sub hl [2, 3, 1, 0] rfl) hP hS rfl
        have hl : lv_has ls 5 [(0, .ref (b + 0)), (1, .int a1), (2, .int (st 0 2 0))] := hl
        refine lv_aload_n C.1 C.2.1 d_MO_tick_142 rfl (lv_at hl 0 rfl) ?_
        refine xcVv (rest := []) C hml hl.1 (k_MO_settle l D cA b (g_MO_tick_58 9 (xu (xu st 0 0 0 0) 0 1 0 ((st 0 1 0) + a1)) a1 (st 0 2 0) 0) (pg_MO_tick_58 _ _ _ _ _ (qok_xu (qok_xu hq (by decide)) (by decide))) (cok_of (cok_of (cok_of hc (fun _ => xu_a (by decide))) (fun _ => xu_a (by decide))) (fun _ => fr_MO_tick_58 (by simp) (by decide) _ _ _ _ _))) q_MO_settle rfl rfl wg_1119 wg_1121 ws_56 ⟨Nat.le_of_ble_eq_true rfl, Nat.le_of_ble_eq_true rfl⟩ hP hS o_MO rfl c_MO rfl (Nat.le_of_ble_eq_true rfl) d_MO_tick_143 rfl (fun H locs hP hS => ?_)
        refine lv_iconst (v := 0) C.1 C.2.1 d_MO_tick_146 (by decide) ?_
        refine lv_istore_n C.1 C.2.1 d_MO_tick_147 rfl hl (by decide) rfl (fun ls hl => ?_)
        have hl : lv_has ls 5 [(3, .int 0), (0, .ref (b + 0)), (1, .int a1), (2, .int (st 0 2 0))] := hl
        refine w_MO_tick_148 l D cA b a1 (st 0 2 0) C hml  (fun H locs ls hP hS hl => ?_) 9 (f_MO_settle (g_MO_tick_58 9 (xu (xu st 0 0 0 0) 0 1 0 ((st 0 1 0) + a1)) a1 (st 0 2 0) 0)) 0 _ _ ls lpi_st ⟨(p_MO_settle (pg_MO_tick_58 _ _ _ _ _ (qok_xu (qok_xu hq (by decide)) (by decide)))), (cok_of (cok_of (cok_of (cok_of hc (fun _ => xu_a (by decide))) (fun _ => xu_a (by decide))) (fun _ => fr_MO_tick_58 (by simp) (by decide) _ _ _ _ _)) (fun _ => fr_MO_settle (by simp) (by decide)))⟩ (lv_sub hl [1, 2, 3, 0] rfl) hP hS rfl
        have hl : lv_has ls 5 [(0, .ref (b + 0)), (1, .int a1), (2, .int (st 0 2 0))] := hl
        refine lv_aload_n C.1 C.2.1 d_MO_tick_190 rfl (lv_at hl 0 rfl) ?_
        refine xget C hP o_MO rfl c_MO (k := 2) (v := .int ((g_MO_tick_148 9 (f_MO_settle (g_MO_tick_58 9 (xu (xu st 0 0 0 0) 0 1 0 ((st 0 1 0) + a1)) a1 (st 0 2 0) 0)) a1 (st 0 2 0) 0) 0 2 0)) (by decide) wg_879 rfl d_MO_tick_191 ?_
        refine lv_iload_n C.1 C.2.1 d_MO_tick_194 rfl (lv_at hl 2 rfl) ?_
        refine lv_isub C.1 C.2.1 d_MO_tick_195 ?_
        exact xri C hlk hr hP hS d_MO_tick_196 ⟨by rw [f_MO_tick, if_neg h1, if_neg h2, if_pos h3], by rw [f_MO_tick, if_neg h1, if_neg h2, if_pos h3]⟩
      · refine lv_iconst (v := 1) C.1 C.2.1 d_MO_tick_24 (by decide) ?_
        refine lv_goto (tgt := 29) C.1 C.2.1 d_MO_tick_25 (by decide) ?_
        refine xput mw_inj C hP hS o_MO rfl c_MO (k := 0) (x := 1) (by decide) wg_877 rfl rfl rfl rfl d_MO_tick_29 (fun H locs hP hS => ?_)
        refine lv_aload_n C.1 C.2.1 d_MO_tick_32 rfl (lv_at hl 0 rfl) ?_
        refine xget C hP o_MO rfl c_MO (k := 0) (v := .int 1) (by decide) wg_877 (congrArg Value.int xu_s) d_MO_tick_33 ?_
        refine lv_if_le (tgt := 41) C.1 C.2.1 d_MO_tick_36 (by decide) (fun h => absurd h (by decide)) (fun _ => ?_)
        refine lv_iconst (v := 0) C.1 C.2.1 d_MO_tick_39 (by decide) ?_
        exact xri C hlk hr hP hS d_MO_tick_40 ⟨by rw [f_MO_tick, if_neg h1, if_neg h2, if_neg h3], by rw [f_MO_tick, if_neg h1, if_neg h2, if_neg h3]⟩
