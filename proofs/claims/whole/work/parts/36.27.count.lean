def g_MO_count_113 : Nat → XS → Int32 → Int32 → Int32 → Int32
  | 0, st, a1, c2, x3 => c2
  | n + 1, st, a1, c2, x3 =>
    if 8 ≤ x3 then c2
    else if c2 = 0 then (if (f_MO_knowsLoud st x3) = 0 then (g_MO_count_113 n st a1 0 (x3 + 1))
      else (g_MO_count_113 n st a1 1 (x3 + 1)))
    else (g_MO_count_113 n st a1 1 (x3 + 1))
set_option maxRecDepth 100000 in
set_option maxHeartbeats 4000000 in
theorem w_MO_count_113 (l : Launch) (D : va_G) (cA : Nat → ClassId) (b : Nat) (a1 : Int32) {p : Program} {e : Env} {s : State} {m : MethodId} {below : List Frame} {meth : Method} {c : Code} {Q : State → Prop} (C : xCx p s m ([.ref (b + 0), .int a1] : List Value).toArray c b_MO_count y_MO_count.cls D cA) (hml : c.maxLocals = 4) (st : XS) {ec2 : Int32} (kx : ∀ (H1 : Heap) (locs1 : List Loc) (ls1 : Array Slot), xP mw D cA b st H1 → va_S (xA mw b) s.heap H1 locs1 → lv_has ls1 4 [(0, .ref (b + 0)), (1, .int a1), (2, .int ec2)] → W p l e { frames := 1, cells := 0, slots := 0, locals := 23 } s m ([.ref (b + 0), .int a1] : List Value).toArray below meth c H1 locs1 0 0 Q (F0 m 143 ls1 [])) : ∀ (n : Nat) (c2 x3 : Int32) (H : Heap) (locs : List Loc) (ls : Array Slot), lpi 8 n x3 → lv_has ls 4 [(0, .ref (b + 0)), (1, .int a1), (2, .int c2), (3, .int x3)] → xP mw D cA b st H → va_S (xA mw b) s.heap H locs → g_MO_count_113 n st a1 c2 x3 = ec2 → W p l e { frames := 1, cells := 0, slots := 0, locals := 23 } s m ([.ref (b + 0), .int a1] : List Value).toArray below meth c H locs 0 0 Q (F0 m 113 ls []) := by
  intro n
  induction n with
  | zero =>
    intro c2 x3 H locs ls hx
    exact absurd hx (fun h => lpi_no h)
  | succ n ih =>
    intro c2 x3 H locs ls hx hl hP hS hg
    refine lv_iload_n C.1 C.2.1 d_MO_count_113 rfl (lv_at hl 3 rfl) ?_
    refine lv_bipush (v := 8) C.1 C.2.1 d_MO_count_114 (by decide) ?_
    refine lv_icmp_ge (tgt := 143) C.1 C.2.1 d_MO_count_116 (by decide) (fun h1 => ?_) (fun h1 => ?_)
    · rw [g_MO_count_113, if_pos h1] at hg
      subst hg
      exact kx _ _ ls hP hS (lv_sub hl [0, 1, 2] rfl)
    · refine lv_iload_n C.1 C.2.1 d_MO_count_119 rfl (lv_at hl 2 rfl) ?_
      refine lv_if_ne (tgt := 131) C.1 C.2.1 d_MO_count_120 (by decide) (fun h2 => ?_) (fun h2 => ?_)
      · refine lv_iconst (v := 1) C.1 C.2.1 d_MO_count_131 (by decide) ?_
        refine lv_goto (tgt := 136) C.1 C.2.1 d_MO_count_132 (by decide) ?_
        refine lv_istore_n C.1 C.2.1 d_MO_count_136 rfl hl (by decide) rfl (fun ls hl => ?_)
        have hl : lv_has ls 4 [(2, .int 1), (0, .ref (b + 0)), (1, .int a1), (3, .int x3)] := hl
        refine lv_iinc (v := (x3 + 1)) C.1 C.2.1 d_MO_count_137 hl (k := 3) rfl rfl (by decide) rfl (fun ls hl => ?_)
        have hl : lv_has ls 4 [(3, .int (x3 + 1)), (2, .int 1), (0, .ref (b + 0)), (1, .int a1)] := hl
        refine lv_goto (tgt := 113) C.1 C.2.1 d_MO_count_140 (by decide) ?_
        rw [g_MO_count_113, if_neg h1, if_neg h2] at hg
        exact ih _ _ _ _ ls (lpi_nx hx (lpi_c hx h1 i32_8) (by decide)) (lv_sub hl [2, 3, 1, 0] rfl) hP hS hg
      · refine lv_aload_n C.1 C.2.1 d_MO_count_123 rfl (lv_at hl 0 rfl) ?_
        refine lv_iload_n C.1 C.2.1 d_MO_count_124 rfl (lv_at hl 3 rfl) ?_
        refine xcVi (rest := []) C hml hl.1 (k_MO_knowsLoud l D cA b st x3 (lpi_ix hx (lpi_c hx h1 i32_8) (by decide))) q_MO_knowsLoud rfl rfl wg_1163 wg_1165 ws_62 ⟨Nat.le_of_ble_eq_true rfl, Nat.le_of_ble_eq_true rfl⟩ hP hS o_MO rfl c_MO rfl (Nat.le_of_ble_eq_true rfl) d_MO_count_125 rfl (fun H locs hP hS => ?_)
        refine lv_if_eq (tgt := 135) C.1 C.2.1 d_MO_count_128 (by decide) (fun h3 => ?_) (fun h3 => ?_)
        · refine lv_iconst (v := 0) C.1 C.2.1 d_MO_count_135 (by decide) ?_
          refine lv_istore_n C.1 C.2.1 d_MO_count_136 rfl hl (by decide) rfl (fun ls hl => ?_)
          have hl : lv_has ls 4 [(2, .int 0), (0, .ref (b + 0)), (1, .int a1), (3, .int x3)] := hl
          refine lv_iinc (v := (x3 + 1)) C.1 C.2.1 d_MO_count_137 hl (k := 3) rfl rfl (by decide) rfl (fun ls hl => ?_)
          have hl : lv_has ls 4 [(3, .int (x3 + 1)), (2, .int 0), (0, .ref (b + 0)), (1, .int a1)] := hl
          refine lv_goto (tgt := 113) C.1 C.2.1 d_MO_count_140 (by decide) ?_
          rw [g_MO_count_113, if_neg h1, if_pos h2, if_pos h3] at hg
          exact ih _ _ _ _ ls (lpi_nx hx (lpi_c hx h1 i32_8) (by decide)) (lv_sub hl [2, 3, 1, 0] rfl) hP hS hg
        · refine lv_iconst (v := 1) C.1 C.2.1 d_MO_count_131 (by decide) ?_
          refine lv_goto (tgt := 136) C.1 C.2.1 d_MO_count_132 (by decide) ?_
          refine lv_istore_n C.1 C.2.1 d_MO_count_136 rfl hl (by decide) rfl (fun ls hl => ?_)
          have hl : lv_has ls 4 [(2, .int 1), (0, .ref (b + 0)), (1, .int a1), (3, .int x3)] := hl
          refine lv_iinc (v := (x3 + 1)) C.1 C.2.1 d_MO_count_137 hl (k := 3) rfl rfl (by decide) rfl (fun ls hl => ?_)
          have hl : lv_has ls 4 [(3, .int (x3 + 1)), (2, .int 1), (0, .ref (b + 0)), (1, .int a1)] := hl
          refine lv_goto (tgt := 113) C.1 C.2.1 d_MO_count_140 (by decide) ?_
          rw [g_MO_count_113, if_neg h1, if_pos h2, if_neg h3] at hg
          exact ih _ _ _ _ ls (lpi_nx hx (lpi_c hx h1 i32_8) (by decide)) (lv_sub hl [2, 3, 1, 0] rfl) hP hS hg
def f_MO_count (st : XS) (a1 : Int32) : XS × Int32 :=
  if a1 < 100 then (if a1 < 200 then (if a1 < 300 then (if a1 = 0 then ((xu st 0 0 0 0), (st 0 1 0))
        else if a1 = 1 then ((xu st 0 0 0 0), (st 0 2 0))
        else if a1 = 2 then ((xu st 0 0 0 0), (st 0 39 0))
        else if a1 = 3 then ((xu st 0 0 0 0), (st 0 3 0))
        else if a1 = 4 then ((xu st 0 0 0 0), (st 0 48 0))
        else if a1 = 5 then ((xu st 0 0 0 0), (st 0 56 0))
        else if a1 = 6 then (if (g_MO_count_113 9 (xu st 0 0 0 0) a1 0 0) = 0 then ((xu st 0 0 0 0), 0)
          else ((xu st 0 0 0 0), 1))
        else ((xu st 0 0 0 0), (-1)))
      else if 304 ≤ a1 then (if a1 = 0 then ((xu st 0 0 0 0), (st 0 1 0))
        else if a1 = 1 then ((xu st 0 0 0 0), (st 0 2 0))
        else if a1 = 2 then ((xu st 0 0 0 0), (st 0 39 0))
        else if a1 = 3 then ((xu st 0 0 0 0), (st 0 3 0))
        else if a1 = 4 then ((xu st 0 0 0 0), (st 0 48 0))
        else if a1 = 5 then ((xu st 0 0 0 0), (st 0 56 0))
        else if a1 = 6 then (if (g_MO_count_113 9 (xu st 0 0 0 0) a1 0 0) = 0 then ((xu st 0 0 0 0), 0)
          else ((xu st 0 0 0 0), 1))
        else ((xu st 0 0 0 0), (-1)))
      else ((xu st 0 0 0 0), (st 1 ((a1 - 300)).toNatClampNeg 0)))
    else if 264 ≤ a1 then (if a1 < 300 then (if a1 = 0 then ((xu st 0 0 0 0), (st 0 1 0))
        else if a1 = 1 then ((xu st 0 0 0 0), (st 0 2 0))
        else if a1 = 2 then ((xu st 0 0 0 0), (st 0 39 0))
        else if a1 = 3 then ((xu st 0 0 0 0), (st 0 3 0))
        else if a1 = 4 then ((xu st 0 0 0 0), (st 0 48 0))
        else if a1 = 5 then ((xu st 0 0 0 0), (st 0 56 0))
        else if a1 = 6 then (if (g_MO_count_113 9 (xu st 0 0 0 0) a1 0 0) = 0 then ((xu st 0 0 0 0), 0)
          else ((xu st 0 0 0 0), 1))
        else ((xu st 0 0 0 0), (-1)))
      else if 304 ≤ a1 then (if a1 = 0 then ((xu st 0 0 0 0), (st 0 1 0))
        else if a1 = 1 then ((xu st 0 0 0 0), (st 0 2 0))
        else if a1 = 2 then ((xu st 0 0 0 0), (st 0 39 0))
        else if a1 = 3 then ((xu st 0 0 0 0), (st 0 3 0))
        else if a1 = 4 then ((xu st 0 0 0 0), (st 0 48 0))
        else if a1 = 5 then ((xu st 0 0 0 0), (st 0 56 0))
        else if a1 = 6 then (if (g_MO_count_113 9 (xu st 0 0 0 0) a1 0 0) = 0 then ((xu st 0 0 0 0), 0)
          else ((xu st 0 0 0 0), 1))
        else ((xu st 0 0 0 0), (-1)))
      else ((xu st 0 0 0 0), (st 1 ((a1 - 300)).toNatClampNeg 0)))
    else if (st 0 39 0) ≤ (a1 - 200) then ((xu st 0 0 0 0), (-1))
    else ((xu st 0 0 0 0), (st 36 ((a1 - 200)).toNatClampNeg 0)))
  else if 200 ≤ a1 then (if a1 < 200 then (if a1 < 300 then (if a1 = 0 then ((xu st 0 0 0 0), (st 0 1 0))
        else if a1 = 1 then ((xu st 0 0 0 0), (st 0 2 0))
        else if a1 = 2 then ((xu st 0 0 0 0), (st 0 39 0))
        else if a1 = 3 then ((xu st 0 0 0 0), (st 0 3 0))
        else if a1 = 4 then ((xu st 0 0 0 0), (st 0 48 0))
        else if a1 = 5 then ((xu st 0 0 0 0), (st 0 56 0))
        else if a1 = 6 then (if (g_MO_count_113 9 (xu st 0 0 0 0) a1 0 0) = 0 then ((xu st 0 0 0 0), 0)
          else ((xu st 0 0 0 0), 1))
        else ((xu st 0 0 0 0), (-1)))
      else if 304 ≤ a1 then (if a1 = 0 then ((xu st 0 0 0 0), (st 0 1 0))
        else if a1 = 1 then ((xu st 0 0 0 0), (st 0 2 0))
        else if a1 = 2 then ((xu st 0 0 0 0), (st 0 39 0))
        else if a1 = 3 then ((xu st 0 0 0 0), (st 0 3 0))
        else if a1 = 4 then ((xu st 0 0 0 0), (st 0 48 0))
        else if a1 = 5 then ((xu st 0 0 0 0), (st 0 56 0))
        else if a1 = 6 then (if (g_MO_count_113 9 (xu st 0 0 0 0) a1 0 0) = 0 then ((xu st 0 0 0 0), 0)
          else ((xu st 0 0 0 0), 1))
        else ((xu st 0 0 0 0), (-1)))
      else ((xu st 0 0 0 0), (st 1 ((a1 - 300)).toNatClampNeg 0)))
    else if 264 ≤ a1 then (if a1 < 300 then (if a1 = 0 then ((xu st 0 0 0 0), (st 0 1 0))
        else if a1 = 1 then ((xu st 0 0 0 0), (st 0 2 0))
        else if a1 = 2 then ((xu st 0 0 0 0), (st 0 39 0))
        else if a1 = 3 then ((xu st 0 0 0 0), (st 0 3 0))
        else if a1 = 4 then ((xu st 0 0 0 0), (st 0 48 0))
        else if a1 = 5 then ((xu st 0 0 0 0), (st 0 56 0))
        else if a1 = 6 then (if (g_MO_count_113 9 (xu st 0 0 0 0) a1 0 0) = 0 then ((xu st 0 0 0 0), 0)
          else ((xu st 0 0 0 0), 1))
        else ((xu st 0 0 0 0), (-1)))
      else if 304 ≤ a1 then (if a1 = 0 then ((xu st 0 0 0 0), (st 0 1 0))
        else if a1 = 1 then ((xu st 0 0 0 0), (st 0 2 0))
        else if a1 = 2 then ((xu st 0 0 0 0), (st 0 39 0))
        else if a1 = 3 then ((xu st 0 0 0 0), (st 0 3 0))
        else if a1 = 4 then ((xu st 0 0 0 0), (st 0 48 0))
        else if a1 = 5 then ((xu st 0 0 0 0), (st 0 56 0))
        else if a1 = 6 then (if (g_MO_count_113 9 (xu st 0 0 0 0) a1 0 0) = 0 then ((xu st 0 0 0 0), 0)
          else ((xu st 0 0 0 0), 1))
        else ((xu st 0 0 0 0), (-1)))
      else ((xu st 0 0 0 0), (st 1 ((a1 - 300)).toNatClampNeg 0)))
    else if (st 0 39 0) ≤ (a1 - 200) then ((xu st 0 0 0 0), (-1))
    else ((xu st 0 0 0 0), (st 36 ((a1 - 200)).toNatClampNeg 0)))
  else if (st 0 56 0) ≤ (a1 - 100) then ((xu st 0 0 0 0), (-1))
  else ((xu st 0 0 0 0), (st 55 ((a1 - 100)).toNatClampNeg 0))
set_option maxRecDepth 100000 in
set_option maxHeartbeats 4000000 in
theorem fr_MO_count {st : XS} {a1 : Int32} {a' k' i' : Nat} (h : (a', k') ∉ ([(0, 0)] : List (Nat × Nat))) (h2 : a' ∉ ([] : List Nat)) : (f_MO_count st a1).1 a' k' i' = st a' k' i' := by
  unfold f_MO_count
  repeat' (with_reducible refine ite_fr ?_ ?_)
  all_goals (try dsimp only)
  all_goals (repeat (first | with_reducible rfl | rw [xu_f (fun e => h (by rw [e]; decide))]))
theorem p_MO_count {st : XS} {a1 : Int32} (h : qok st) : qok (f_MO_count st a1).1 := qok_of h (fr_MO_count (by decide) (by decide))
set_option maxRecDepth 100000 in
set_option maxHeartbeats 4000000 in
theorem k_MO_count (l : Launch) (D : va_G) (cA : Nat → ClassId) (b : Nat) (st : XS) (a1 : Int32) (hq : qok st) (hoo : 0 ≤ (st 0 56 0).toInt ∧ (st 0 56 0).toInt ≤ (100 : Nat)) : xMi mw D cA b l y_MO_count (Cond.code y_MO_count b_MO_count 4 (some .int)) { frames := 1, cells := 0, slots := 0, locals := 23 } st [.ref (b + 0), .int a1] (f_MO_count st a1).2 (f_MO_count st a1).1 := by
  refine xMi_of rfl (by decide) (Nat.le_of_ble_eq_true rfl) ?_
  intro p e s m below meth c ls C hlk hr hml hl hP hS
  have hl : lv_has ls 4 [(0, .ref (b + 0)), (1, .int a1)] := hl
  refine lv_aload_n C.1 C.2.1 d_MO_count_0 rfl (lv_at hl 0 rfl) ?_
  refine lv_iconst (v := 0) C.1 C.2.1 d_MO_count_1 (by decide) ?_
  refine xput mw_inj C hP hS o_MO rfl c_MO (k := 0) (x := 0) (by decide) wg_877 rfl rfl rfl rfl d_MO_count_2 (fun H locs hP hS => ?_)
  refine lv_iload_n C.1 C.2.1 d_MO_count_5 rfl (lv_at hl 1 rfl) ?_
  refine lv_bipush (v := 100) C.1 C.2.1 d_MO_count_6 (by decide) ?_
  refine lv_icmp_lt (tgt := 43) C.1 C.2.1 d_MO_count_8 (by decide) (fun h1 => ?_) (fun h1 => ?_)
  · refine lv_iload_n C.1 C.2.1 d_MO_count_43 rfl (lv_at hl 1 rfl) ?_
    refine lv_sipush (v := 200) C.1 C.2.1 d_MO_count_44 (by decide) ?_
    refine lv_icmp_lt (tgt := 84) C.1 C.2.1 d_MO_count_47 (by decide) (fun h2 => ?_) (fun h2 => ?_)
    · refine lv_iload_n C.1 C.2.1 d_MO_count_84 rfl (lv_at hl 1 rfl) ?_
      refine lv_sipush (v := 300) C.1 C.2.1 d_MO_count_85 (by decide) ?_
      refine lv_icmp_lt (tgt := 109) C.1 C.2.1 d_MO_count_88 (by decide) (fun h3 => ?_) (fun h3 => ?_)
      · refine lv_iconst (v := 0) C.1 C.2.1 d_MO_count_109 (by decide) ?_
        refine lv_istore_n C.1 C.2.1 d_MO_count_110 rfl hl (by decide) rfl (fun ls hl => ?_)
        have hl : lv_has ls 4 [(2, .int 0), (0, .ref (b + 0)), (1, .int a1)] := hl
        refine lv_iconst (v := 0) C.1 C.2.1 d_MO_count_111 (by decide) ?_
        refine lv_istore_n C.1 C.2.1 d_MO_count_112 rfl hl (by decide) rfl (fun ls hl => ?_)
        have hl : lv_has ls 4 [(3, .int 0), (2, .int 0), (0, .ref (b + 0)), (1, .int a1)] := hl
        refine w_MO_count_113 l D cA b a1 C hml (xu st 0 0 0 0) (fun H locs ls hP hS hl => ?_) 9 0 0 _ _ ls lpi_st (lv_sub hl [2, 3, 1, 0] rfl) hP hS rfl
        have hl : lv_has ls 4 [(0, .ref (b + 0)), (1, .int a1), (2, .int (g_MO_count_113 9 (xu st 0 0 0 0) a1 0 0))] := hl
        refine lv_iload_n C.1 C.2.1 d_MO_count_143 rfl (lv_at hl 1 rfl) ?_
        by_cases h4 : a1 = 0
        · refine lv_tableIn (tgt := 188) (off := 44) C.1 C.2.1 d_MO_count_144 (by rw [h4]; decide) (by rw [h4]; decide) (by rw [h4]; rfl) (by decide) ?_
          refine lv_aload_n C.1 C.2.1 d_MO_count_188 rfl (lv_at hl 0 rfl) ?_
          refine xget C hP o_MO rfl c_MO (k := 1) (v := .int (st 0 1 0)) (by decide) wg_878 (congrArg Value.int (xu_f (by decide))) d_MO_count_189 ?_
          exact xri C hlk hr hP hS d_MO_count_192 ⟨by rw [f_MO_count, if_pos h1, if_pos h2, if_pos h3, if_pos h4], by rw [f_MO_count, if_pos h1, if_pos h2, if_pos h3, if_pos h4]⟩
        by_cases h5 : a1 = 1
        · refine lv_tableIn (tgt := 193) (off := 49) C.1 C.2.1 d_MO_count_144 (by rw [h5]; decide) (by rw [h5]; decide) (by rw [h5]; rfl) (by decide) ?_
          refine lv_aload_n C.1 C.2.1 d_MO_count_193 rfl (lv_at hl 0 rfl) ?_
          refine xget C hP o_MO rfl c_MO (k := 2) (v := .int (st 0 2 0)) (by decide) wg_879 (congrArg Value.int (xu_f (by decide))) d_MO_count_194 ?_
          exact xri C hlk hr hP hS d_MO_count_197 ⟨by rw [f_MO_count, if_pos h1, if_pos h2, if_pos h3, if_neg h4, if_pos h5], by rw [f_MO_count, if_pos h1, if_pos h2, if_pos h3, if_neg h4, if_pos h5]⟩
        by_cases h6 : a1 = 2
        · refine lv_tableIn (tgt := 198) (off := 54) C.1 C.2.1 d_MO_count_144 (by rw [h6]; decide) (by rw [h6]; decide) (by rw [h6]; rfl) (by decide) ?_
          refine lv_aload_n C.1 C.2.1 d_MO_count_198 rfl (lv_at hl 0 rfl) ?_
          refine xget C hP o_MO rfl c_MO (k := 39) (v := .int (st 0 39 0)) (by decide) wg_916 (congrArg Value.int (xu_f (by decide))) d_MO_count_199 ?_
          exact xri C hlk hr hP hS d_MO_count_202 ⟨by rw [f_MO_count, if_pos h1, if_pos h2, if_pos h3, if_neg h4, if_neg h5, if_pos h6], by rw [f_MO_count, if_pos h1, if_pos h2, if_pos h3, if_neg h4, if_neg h5, if_pos h6]⟩
        by_cases h7 : a1 = 3
        · refine lv_tableIn (tgt := 203) (off := 59) C.1 C.2.1 d_MO_count_144 (by rw [h7]; decide) (by rw [h7]; decide) (by rw [h7]; rfl) (by decide) ?_
          refine lv_aload_n C.1 C.2.1 d_MO_count_203 rfl (lv_at hl 0 rfl) ?_
          refine xget C hP o_MO rfl c_MO (k := 3) (v := .int (st 0 3 0)) (by decide) wg_880 (congrArg Value.int (xu_f (by decide))) d_MO_count_204 ?_
          exact xri C hlk hr hP hS d_MO_count_207 ⟨by rw [f_MO_count, if_pos h1, if_pos h2, if_pos h3, if_neg h4, if_neg h5, if_neg h6, if_pos h7], by rw [f_MO_count, if_pos h1, if_pos h2, if_pos h3, if_neg h4, if_neg h5, if_neg h6, if_pos h7]⟩
        by_cases h8 : a1 = 4
        · refine lv_tableIn (tgt := 208) (off := 64) C.1 C.2.1 d_MO_count_144 (by rw [h8]; decide) (by rw [h8]; decide) (by rw [h8]; rfl) (by decide) ?_
          refine lv_aload_n C.1 C.2.1 d_MO_count_208 rfl (lv_at hl 0 rfl) ?_
          refine xget C hP o_MO rfl c_MO (k := 48) (v := .int (st 0 48 0)) (by decide) wg_925 (congrArg Value.int (xu_f (by decide))) d_MO_count_209 ?_
          exact xri C hlk hr hP hS d_MO_count_212 ⟨by rw [f_MO_count, if_pos h1, if_pos h2, if_pos h3, if_neg h4, if_neg h5, if_neg h6, if_neg h7, if_pos h8], by rw [f_MO_count, if_pos h1, if_pos h2, if_pos h3, if_neg h4, if_neg h5, if_neg h6, if_neg h7, if_pos h8]⟩
        by_cases h9 : a1 = 5
        · refine lv_tableIn (tgt := 213) (off := 69) C.1 C.2.1 d_MO_count_144 (by rw [h9]; decide) (by rw [h9]; decide) (by rw [h9]; rfl) (by decide) ?_
          refine lv_aload_n C.1 C.2.1 d_MO_count_213 rfl (lv_at hl 0 rfl) ?_
          refine xget C hP o_MO rfl c_MO (k := 56) (v := .int (st 0 56 0)) (by decide) wg_933 (congrArg Value.int (xu_f (by decide))) d_MO_count_214 ?_
          exact xri C hlk hr hP hS d_MO_count_217 ⟨by rw [f_MO_count, if_pos h1, if_pos h2, if_pos h3, if_neg h4, if_neg h5, if_neg h6, if_neg h7, if_neg h8, if_pos h9], by rw [f_MO_count, if_pos h1, if_pos h2, if_pos h3, if_neg h4, if_neg h5, if_neg h6, if_neg h7, if_neg h8, if_pos h9]⟩
        by_cases h10 : a1 = 6
        · refine lv_tableIn (tgt := 218) (off := 74) C.1 C.2.1 d_MO_count_144 (by rw [h10]; decide) (by rw [h10]; decide) (by rw [h10]; rfl) (by decide) ?_
          refine lv_iload_n C.1 C.2.1 d_MO_count_218 rfl (lv_at hl 2 rfl) ?_
          refine lv_if_eq (tgt := 226) C.1 C.2.1 d_MO_count_219 (by decide) (fun h11 => ?_) (fun h11 => ?_)
          · refine lv_iconst (v := 0) C.1 C.2.1 d_MO_count_226 (by decide) ?_
            exact xri C hlk hr hP hS d_MO_count_227 ⟨by rw [f_MO_count, if_pos h1, if_pos h2, if_pos h3, if_neg h4, if_neg h5, if_neg h6, if_neg h7, if_neg h8, if_neg h9, if_pos h10, if_pos h11], by rw [f_MO_count, if_pos h1, if_pos h2, if_pos h3, if_neg h4, if_neg h5, if_neg h6, if_neg h7, if_neg h8, if_neg h9, if_pos h10, if_pos h11]⟩
          · refine lv_iconst (v := 1) C.1 C.2.1 d_MO_count_222 (by decide) ?_
            refine lv_goto (tgt := 227) C.1 C.2.1 d_MO_count_223 (by decide) ?_
            exact xri C hlk hr hP hS d_MO_count_227 ⟨by rw [f_MO_count, if_pos h1, if_pos h2, if_pos h3, if_neg h4, if_neg h5, if_neg h6, if_neg h7, if_neg h8, if_neg h9, if_pos h10, if_neg h11], by rw [f_MO_count, if_pos h1, if_pos h2, if_pos h3, if_neg h4, if_neg h5, if_neg h6, if_neg h7, if_neg h8, if_neg h9, if_pos h10, if_neg h11]⟩
        refine lv_tableOut (tgt := 228) C.1 C.2.1 d_MO_count_144 (by have eh4 := lv_neT h4 (a := 0) (by decide); have eh5 := lv_neT h5 (a := 1) (by decide); have eh6 := lv_neT h6 (a := 2) (by decide); have eh7 := lv_neT h7 (a := 3) (by decide); have eh8 := lv_neT h8 (a := 4) (by decide); have eh9 := lv_neT h9 (a := 5) (by decide); have eh10 := lv_neT h10 (a := 6) (by decide); omega) (by decide) ?_
        refine lv_iconst (v := (-1)) C.1 C.2.1 d_MO_count_228 (by decide) ?_
        exact xri C hlk hr hP hS d_MO_count_229 ⟨by rw [f_MO_count, if_pos h1, if_pos h2, if_pos h3, if_neg h4, if_neg h5, if_neg h6, if_neg h7, if_neg h8, if_neg h9, if_neg h10], by rw [f_MO_count, if_pos h1, if_pos h2, if_pos h3, if_neg h4, if_neg h5, if_neg h6, if_neg h7, if_neg h8, if_neg h9, if_neg h10]⟩
      · refine lv_iload_n C.1 C.2.1 d_MO_count_91 rfl (lv_at hl 1 rfl) ?_
        refine lv_sipush (v := 304) C.1 C.2.1 d_MO_count_92 (by decide) ?_
        refine lv_icmp_ge (tgt := 109) C.1 C.2.1 d_MO_count_95 (by decide) (fun h12 => ?_) (fun h12 => ?_)
        · refine lv_iconst (v := 0) C.1 C.2.1 d_MO_count_109 (by decide) ?_
          refine lv_istore_n C.1 C.2.1 d_MO_count_110 rfl hl (by decide) rfl (fun ls hl => ?_)
          have hl : lv_has ls 4 [(2, .int 0), (0, .ref (b + 0)), (1, .int a1)] := hl
          refine lv_iconst (v := 0) C.1 C.2.1 d_MO_count_111 (by decide) ?_
          refine lv_istore_n C.1 C.2.1 d_MO_count_112 rfl hl (by decide) rfl (fun ls hl => ?_)
          have hl : lv_has ls 4 [(3, .int 0), (2, .int 0), (0, .ref (b + 0)), (1, .int a1)] := hl
          refine w_MO_count_113 l D cA b a1 C hml (xu st 0 0 0 0) (fun H locs ls hP hS hl => ?_) 9 0 0 _ _ ls lpi_st (lv_sub hl [2, 3, 1, 0] rfl) hP hS rfl
          have hl : lv_has ls 4 [(0, .ref (b + 0)), (1, .int a1), (2, .int (g_MO_count_113 9 (xu st 0 0 0 0) a1 0 0))] := hl
          refine lv_iload_n C.1 C.2.1 d_MO_count_143 rfl (lv_at hl 1 rfl) ?_
          by_cases h13 : a1 = 0
          · refine lv_tableIn (tgt := 188) (off := 44) C.1 C.2.1 d_MO_count_144 (by rw [h13]; decide) (by rw [h13]; decide) (by rw [h13]; rfl) (by decide) ?_
            refine lv_aload_n C.1 C.2.1 d_MO_count_188 rfl (lv_at hl 0 rfl) ?_
            refine xget C hP o_MO rfl c_MO (k := 1) (v := .int (st 0 1 0)) (by decide) wg_878 (congrArg Value.int (xu_f (by decide))) d_MO_count_189 ?_
            exact xri C hlk hr hP hS d_MO_count_192 ⟨by rw [f_MO_count, if_pos h1, if_pos h2, if_neg h3, if_pos h12, if_pos h13], by rw [f_MO_count, if_pos h1, if_pos h2, if_neg h3, if_pos h12, if_pos h13]⟩
          by_cases h14 : a1 = 1
          · refine lv_tableIn (tgt := 193) (off := 49) C.1 C.2.1 d_MO_count_144 (by rw [h14]; decide) (by rw [h14]; decide) (by rw [h14]; rfl) (by decide) ?_
            refine lv_aload_n C.1 C.2.1 d_MO_count_193 rfl (lv_at hl 0 rfl) ?_
            refine xget C hP o_MO rfl c_MO (k := 2) (v := .int (st 0 2 0)) (by decide) wg_879 (congrArg Value.int (xu_f (by decide))) d_MO_count_194 ?_
            exact xri C hlk hr hP hS d_MO_count_197 ⟨by rw [f_MO_count, if_pos h1, if_pos h2, if_neg h3, if_pos h12, if_neg h13, if_pos h14], by rw [f_MO_count, if_pos h1, if_pos h2, if_neg h3, if_pos h12, if_neg h13, if_pos h14]⟩
          by_cases h15 : a1 = 2
          · refine lv_tableIn (tgt := 198) (off := 54) C.1 C.2.1 d_MO_count_144 (by rw [h15]; decide) (by rw [h15]; decide) (by rw [h15]; rfl) (by decide) ?_
            refine lv_aload_n C.1 C.2.1 d_MO_count_198 rfl (lv_at hl 0 rfl) ?_
            refine xget C hP o_MO rfl c_MO (k := 39) (v := .int (st 0 39 0)) (by decide) wg_916 (congrArg Value.int (xu_f (by decide))) d_MO_count_199 ?_
            exact xri C hlk hr hP hS d_MO_count_202 ⟨by rw [f_MO_count, if_pos h1, if_pos h2, if_neg h3, if_pos h12, if_neg h13, if_neg h14, if_pos h15], by rw [f_MO_count, if_pos h1, if_pos h2, if_neg h3, if_pos h12, if_neg h13, if_neg h14, if_pos h15]⟩
          by_cases h16 : a1 = 3
          · refine lv_tableIn (tgt := 203) (off := 59) C.1 C.2.1 d_MO_count_144 (by rw [h16]; decide) (by rw [h16]; decide) (by rw [h16]; rfl) (by decide) ?_
            refine lv_aload_n C.1 C.2.1 d_MO_count_203 rfl (lv_at hl 0 rfl) ?_
            refine xget C hP o_MO rfl c_MO (k := 3) (v := .int (st 0 3 0)) (by decide) wg_880 (congrArg Value.int (xu_f (by decide))) d_MO_count_204 ?_
            exact xri C hlk hr hP hS d_MO_count_207 ⟨by rw [f_MO_count, if_pos h1, if_pos h2, if_neg h3, if_pos h12, if_neg h13, if_neg h14, if_neg h15, if_pos h16], by rw [f_MO_count, if_pos h1, if_pos h2, if_neg h3, if_pos h12, if_neg h13, if_neg h14, if_neg h15, if_pos h16]⟩
          by_cases h17 : a1 = 4
          · refine lv_tableIn (tgt := 208) (off := 64) C.1 C.2.1 d_MO_count_144 (by rw [h17]; decide) (by rw [h17]; decide) (by rw [h17]; rfl) (by decide) ?_
            refine lv_aload_n C.1 C.2.1 d_MO_count_208 rfl (lv_at hl 0 rfl) ?_
            refine xget C hP o_MO rfl c_MO (k := 48) (v := .int (st 0 48 0)) (by decide) wg_925 (congrArg Value.int (xu_f (by decide))) d_MO_count_209 ?_
            exact xri C hlk hr hP hS d_MO_count_212 ⟨by rw [f_MO_count, if_pos h1, if_pos h2, if_neg h3, if_pos h12, if_neg h13, if_neg h14, if_neg h15, if_neg h16, if_pos h17], by rw [f_MO_count, if_pos h1, if_pos h2, if_neg h3, if_pos h12, if_neg h13, if_neg h14, if_neg h15, if_neg h16, if_pos h17]⟩
          by_cases h18 : a1 = 5
          · refine lv_tableIn (tgt := 213) (off := 69) C.1 C.2.1 d_MO_count_144 (by rw [h18]; decide) (by rw [h18]; decide) (by rw [h18]; rfl) (by decide) ?_
            refine lv_aload_n C.1 C.2.1 d_MO_count_213 rfl (lv_at hl 0 rfl) ?_
            refine xget C hP o_MO rfl c_MO (k := 56) (v := .int (st 0 56 0)) (by decide) wg_933 (congrArg Value.int (xu_f (by decide))) d_MO_count_214 ?_
            exact xri C hlk hr hP hS d_MO_count_217 ⟨by rw [f_MO_count, if_pos h1, if_pos h2, if_neg h3, if_pos h12, if_neg h13, if_neg h14, if_neg h15, if_neg h16, if_neg h17, if_pos h18], by rw [f_MO_count, if_pos h1, if_pos h2, if_neg h3, if_pos h12, if_neg h13, if_neg h14, if_neg h15, if_neg h16, if_neg h17, if_pos h18]⟩
          by_cases h19 : a1 = 6
          · refine lv_tableIn (tgt := 218) (off := 74) C.1 C.2.1 d_MO_count_144 (by rw [h19]; decide) (by rw [h19]; decide) (by rw [h19]; rfl) (by decide) ?_
            refine lv_iload_n C.1 C.2.1 d_MO_count_218 rfl (lv_at hl 2 rfl) ?_
            refine lv_if_eq (tgt := 226) C.1 C.2.1 d_MO_count_219 (by decide) (fun h20 => ?_) (fun h20 => ?_)
            · refine lv_iconst (v := 0) C.1 C.2.1 d_MO_count_226 (by decide) ?_
              exact xri C hlk hr hP hS d_MO_count_227 ⟨by rw [f_MO_count, if_pos h1, if_pos h2, if_neg h3, if_pos h12, if_neg h13, if_neg h14, if_neg h15, if_neg h16, if_neg h17, if_neg h18, if_pos h19, if_pos h20], by rw [f_MO_count, if_pos h1, if_pos h2, if_neg h3, if_pos h12, if_neg h13, if_neg h14, if_neg h15, if_neg h16, if_neg h17, if_neg h18, if_pos h19, if_pos h20]⟩
            · refine lv_iconst (v := 1) C.1 C.2.1 d_MO_count_222 (by decide) ?_
              refine lv_goto (tgt := 227) C.1 C.2.1 d_MO_count_223 (by decide) ?_
              exact xri C hlk hr hP hS d_MO_count_227 ⟨by rw [f_MO_count, if_pos h1, if_pos h2, if_neg h3, if_pos h12, if_neg h13, if_neg h14, if_neg h15, if_neg h16, if_neg h17, if_neg h18, if_pos h19, if_neg h20], by rw [f_MO_count, if_pos h1, if_pos h2, if_neg h3, if_pos h12, if_neg h13, if_neg h14, if_neg h15, if_neg h16, if_neg h17, if_neg h18, if_pos h19, if_neg h20]⟩
          refine lv_tableOut (tgt := 228) C.1 C.2.1 d_MO_count_144 (by have eh13 := lv_neT h13 (a := 0) (by decide); have eh14 := lv_neT h14 (a := 1) (by decide); have eh15 := lv_neT h15 (a := 2) (by decide); have eh16 := lv_neT h16 (a := 3) (by decide); have eh17 := lv_neT h17 (a := 4) (by decide); have eh18 := lv_neT h18 (a := 5) (by decide); have eh19 := lv_neT h19 (a := 6) (by decide); omega) (by decide) ?_
          refine lv_iconst (v := (-1)) C.1 C.2.1 d_MO_count_228 (by decide) ?_
          exact xri C hlk hr hP hS d_MO_count_229 ⟨by rw [f_MO_count, if_pos h1, if_pos h2, if_neg h3, if_pos h12, if_neg h13, if_neg h14, if_neg h15, if_neg h16, if_neg h17, if_neg h18, if_neg h19], by rw [f_MO_count, if_pos h1, if_pos h2, if_neg h3, if_pos h12, if_neg h13, if_neg h14, if_neg h15, if_neg h16, if_neg h17, if_neg h18, if_neg h19]⟩
        · refine lv_aload_n C.1 C.2.1 d_MO_count_98 rfl (lv_at hl 0 rfl) ?_
          refine xget C hP o_MO rfl c_MO (k := 4) (v := .ref (b + 1)) (by decide) wg_881 rfl d_MO_count_99 ?_
          refine lv_iload_n C.1 C.2.1 d_MO_count_102 rfl (lv_at hl 1 rfl) ?_
          refine lv_sipush (v := 300) C.1 C.2.1 d_MO_count_103 (by decide) ?_
          refine lv_isub C.1 C.2.1 d_MO_count_106 ?_
          refine xiald C hP om_1 rfl (v := (st 1 ((a1 - 300)).toNatClampNeg 0)) (sb_in h3 (by decide) h12 (by decide)) (congrArg Value.int (xu_a (by decide))) d_MO_count_107 ?_
          exact xri C hlk hr hP hS d_MO_count_108 ⟨by rw [f_MO_count, if_pos h1, if_pos h2, if_neg h3, if_neg h12], by rw [f_MO_count, if_pos h1, if_pos h2, if_neg h3, if_neg h12]⟩
    · refine lv_iload_n C.1 C.2.1 d_MO_count_50 rfl (lv_at hl 1 rfl) ?_
      refine lv_sipush (v := 264) C.1 C.2.1 d_MO_count_51 (by decide) ?_
      refine lv_icmp_ge (tgt := 84) C.1 C.2.1 d_MO_count_54 (by decide) (fun h21 => ?_) (fun h21 => ?_)
      · refine lv_iload_n C.1 C.2.1 d_MO_count_84 rfl (lv_at hl 1 rfl) ?_
        refine lv_sipush (v := 300) C.1 C.2.1 d_MO_count_85 (by decide) ?_
        refine lv_icmp_lt (tgt := 109) C.1 C.2.1 d_MO_count_88 (by decide) (fun h22 => ?_) (fun h22 => ?_)
        · refine lv_iconst (v := 0) C.1 C.2.1 d_MO_count_109 (by decide) ?_
          refine lv_istore_n C.1 C.2.1 d_MO_count_110 rfl hl (by decide) rfl (fun ls hl => ?_)
          have hl : lv_has ls 4 [(2, .int 0), (0, .ref (b + 0)), (1, .int a1)] := hl
          refine lv_iconst (v := 0) C.1 C.2.1 d_MO_count_111 (by decide) ?_
          refine lv_istore_n C.1 C.2.1 d_MO_count_112 rfl hl (by decide) rfl (fun ls hl => ?_)
          have hl : lv_has ls 4 [(3, .int 0), (2, .int 0), (0, .ref (b + 0)), (1, .int a1)] := hl
          refine w_MO_count_113 l D cA b a1 C hml (xu st 0 0 0 0) (fun H locs ls hP hS hl => ?_) 9 0 0 _ _ ls lpi_st (lv_sub hl [2, 3, 1, 0] rfl) hP hS rfl
          have hl : lv_has ls 4 [(0, .ref (b + 0)), (1, .int a1), (2, .int (g_MO_count_113 9 (xu st 0 0 0 0) a1 0 0))] := hl
          refine lv_iload_n C.1 C.2.1 d_MO_count_143 rfl (lv_at hl 1 rfl) ?_
          by_cases h23 : a1 = 0
          · refine lv_tableIn (tgt := 188) (off := 44) C.1 C.2.1 d_MO_count_144 (by rw [h23]; decide) (by rw [h23]; decide) (by rw [h23]; rfl) (by decide) ?_
            refine lv_aload_n C.1 C.2.1 d_MO_count_188 rfl (lv_at hl 0 rfl) ?_
            refine xget C hP o_MO rfl c_MO (k := 1) (v := .int (st 0 1 0)) (by decide) wg_878 (congrArg Value.int (xu_f (by decide))) d_MO_count_189 ?_
            exact xri C hlk hr hP hS d_MO_count_192 ⟨by rw [f_MO_count, if_pos h1, if_neg h2, if_pos h21, if_pos h22, if_pos h23], by rw [f_MO_count, if_pos h1, if_neg h2, if_pos h21, if_pos h22, if_pos h23]⟩
          by_cases h24 : a1 = 1
          · refine lv_tableIn (tgt := 193) (off := 49) C.1 C.2.1 d_MO_count_144 (by rw [h24]; decide) (by rw [h24]; decide) (by rw [h24]; rfl) (by decide) ?_
            refine lv_aload_n C.1 C.2.1 d_MO_count_193 rfl (lv_at hl 0 rfl) ?_
            refine xget C hP o_MO rfl c_MO (k := 2) (v := .int (st 0 2 0)) (by decide) wg_879 (congrArg Value.int (xu_f (by decide))) d_MO_count_194 ?_
            exact xri C hlk hr hP hS d_MO_count_197 ⟨by rw [f_MO_count, if_pos h1, if_neg h2, if_pos h21, if_pos h22, if_neg h23, if_pos h24], by rw [f_MO_count, if_pos h1, if_neg h2, if_pos h21, if_pos h22, if_neg h23, if_pos h24]⟩
          by_cases h25 : a1 = 2
          · refine lv_tableIn (tgt := 198) (off := 54) C.1 C.2.1 d_MO_count_144 (by rw [h25]; decide) (by rw [h25]; decide) (by rw [h25]; rfl) (by decide) ?_
            refine lv_aload_n C.1 C.2.1 d_MO_count_198 rfl (lv_at hl 0 rfl) ?_
            refine xget C hP o_MO rfl c_MO (k := 39) (v := .int (st 0 39 0)) (by decide) wg_916 (congrArg Value.int (xu_f (by decide))) d_MO_count_199 ?_
            exact xri C hlk hr hP hS d_MO_count_202 ⟨by rw [f_MO_count, if_pos h1, if_neg h2, if_pos h21, if_pos h22, if_neg h23, if_neg h24, if_pos h25], by rw [f_MO_count, if_pos h1, if_neg h2, if_pos h21, if_pos h22, if_neg h23, if_neg h24, if_pos h25]⟩
          by_cases h26 : a1 = 3
          · refine lv_tableIn (tgt := 203) (off := 59) C.1 C.2.1 d_MO_count_144 (by rw [h26]; decide) (by rw [h26]; decide) (by rw [h26]; rfl) (by decide) ?_
            refine lv_aload_n C.1 C.2.1 d_MO_count_203 rfl (lv_at hl 0 rfl) ?_
            refine xget C hP o_MO rfl c_MO (k := 3) (v := .int (st 0 3 0)) (by decide) wg_880 (congrArg Value.int (xu_f (by decide))) d_MO_count_204 ?_
            exact xri C hlk hr hP hS d_MO_count_207 ⟨by rw [f_MO_count, if_pos h1, if_neg h2, if_pos h21, if_pos h22, if_neg h23, if_neg h24, if_neg h25, if_pos h26], by rw [f_MO_count, if_pos h1, if_neg h2, if_pos h21, if_pos h22, if_neg h23, if_neg h24, if_neg h25, if_pos h26]⟩
          by_cases h27 : a1 = 4
          · refine lv_tableIn (tgt := 208) (off := 64) C.1 C.2.1 d_MO_count_144 (by rw [h27]; decide) (by rw [h27]; decide) (by rw [h27]; rfl) (by decide) ?_
            refine lv_aload_n C.1 C.2.1 d_MO_count_208 rfl (lv_at hl 0 rfl) ?_
            refine xget C hP o_MO rfl c_MO (k := 48) (v := .int (st 0 48 0)) (by decide) wg_925 (congrArg Value.int (xu_f (by decide))) d_MO_count_209 ?_
            exact xri C hlk hr hP hS d_MO_count_212 ⟨by rw [f_MO_count, if_pos h1, if_neg h2, if_pos h21, if_pos h22, if_neg h23, if_neg h24, if_neg h25, if_neg h26, if_pos h27], by rw [f_MO_count, if_pos h1, if_neg h2, if_pos h21, if_pos h22, if_neg h23, if_neg h24, if_neg h25, if_neg h26, if_pos h27]⟩
          by_cases h28 : a1 = 5
          · refine lv_tableIn (tgt := 213) (off := 69) C.1 C.2.1 d_MO_count_144 (by rw [h28]; decide) (by rw [h28]; decide) (by rw [h28]; rfl) (by decide) ?_
            refine lv_aload_n C.1 C.2.1 d_MO_count_213 rfl (lv_at hl 0 rfl) ?_
            refine xget C hP o_MO rfl c_MO (k := 56) (v := .int (st 0 56 0)) (by decide) wg_933 (congrArg Value.int (xu_f (by decide))) d_MO_count_214 ?_
            exact xri C hlk hr hP hS d_MO_count_217 ⟨by rw [f_MO_count, if_pos h1, if_neg h2, if_pos h21, if_pos h22, if_neg h23, if_neg h24, if_neg h25, if_neg h26, if_neg h27, if_pos h28], by rw [f_MO_count, if_pos h1, if_neg h2, if_pos h21, if_pos h22, if_neg h23, if_neg h24, if_neg h25, if_neg h26, if_neg h27, if_pos h28]⟩
          by_cases h29 : a1 = 6
          · refine lv_tableIn (tgt := 218) (off := 74) C.1 C.2.1 d_MO_count_144 (by rw [h29]; decide) (by rw [h29]; decide) (by rw [h29]; rfl) (by decide) ?_
            refine lv_iload_n C.1 C.2.1 d_MO_count_218 rfl (lv_at hl 2 rfl) ?_
            refine lv_if_eq (tgt := 226) C.1 C.2.1 d_MO_count_219 (by decide) (fun h30 => ?_) (fun h30 => ?_)
            · refine lv_iconst (v := 0) C.1 C.2.1 d_MO_count_226 (by decide) ?_
              exact xri C hlk hr hP hS d_MO_count_227 ⟨by rw [f_MO_count, if_pos h1, if_neg h2, if_pos h21, if_pos h22, if_neg h23, if_neg h24, if_neg h25, if_neg h26, if_neg h27, if_neg h28, if_pos h29, if_pos h30], by rw [f_MO_count, if_pos h1, if_neg h2, if_pos h21, if_pos h22, if_neg h23, if_neg h24, if_neg h25, if_neg h26, if_neg h27, if_neg h28, if_pos h29, if_pos h30]⟩
            · refine lv_iconst (v := 1) C.1 C.2.1 d_MO_count_222 (by decide) ?_
              refine lv_goto (tgt := 227) C.1 C.2.1 d_MO_count_223 (by decide) ?_
              exact xri C hlk hr hP hS d_MO_count_227 ⟨by rw [f_MO_count, if_pos h1, if_neg h2, if_pos h21, if_pos h22, if_neg h23, if_neg h24, if_neg h25, if_neg h26, if_neg h27, if_neg h28, if_pos h29, if_neg h30], by rw [f_MO_count, if_pos h1, if_neg h2, if_pos h21, if_pos h22, if_neg h23, if_neg h24, if_neg h25, if_neg h26, if_neg h27, if_neg h28, if_pos h29, if_neg h30]⟩
          refine lv_tableOut (tgt := 228) C.1 C.2.1 d_MO_count_144 (by have eh23 := lv_neT h23 (a := 0) (by decide); have eh24 := lv_neT h24 (a := 1) (by decide); have eh25 := lv_neT h25 (a := 2) (by decide); have eh26 := lv_neT h26 (a := 3) (by decide); have eh27 := lv_neT h27 (a := 4) (by decide); have eh28 := lv_neT h28 (a := 5) (by decide); have eh29 := lv_neT h29 (a := 6) (by decide); omega) (by decide) ?_
          refine lv_iconst (v := (-1)) C.1 C.2.1 d_MO_count_228 (by decide) ?_
          exact xri C hlk hr hP hS d_MO_count_229 ⟨by rw [f_MO_count, if_pos h1, if_neg h2, if_pos h21, if_pos h22, if_neg h23, if_neg h24, if_neg h25, if_neg h26, if_neg h27, if_neg h28, if_neg h29], by rw [f_MO_count, if_pos h1, if_neg h2, if_pos h21, if_pos h22, if_neg h23, if_neg h24, if_neg h25, if_neg h26, if_neg h27, if_neg h28, if_neg h29]⟩
        · refine lv_iload_n C.1 C.2.1 d_MO_count_91 rfl (lv_at hl 1 rfl) ?_
          refine lv_sipush (v := 304) C.1 C.2.1 d_MO_count_92 (by decide) ?_
          refine lv_icmp_ge (tgt := 109) C.1 C.2.1 d_MO_count_95 (by decide) (fun h31 => ?_) (fun h31 => ?_)
          · refine lv_iconst (v := 0) C.1 C.2.1 d_MO_count_109 (by decide) ?_
            refine lv_istore_n C.1 C.2.1 d_MO_count_110 rfl hl (by decide) rfl (fun ls hl => ?_)
            have hl : lv_has ls 4 [(2, .int 0), (0, .ref (b + 0)), (1, .int a1)] := hl
            refine lv_iconst (v := 0) C.1 C.2.1 d_MO_count_111 (by decide) ?_
            refine lv_istore_n C.1 C.2.1 d_MO_count_112 rfl hl (by decide) rfl (fun ls hl => ?_)
            have hl : lv_has ls 4 [(3, .int 0), (2, .int 0), (0, .ref (b + 0)), (1, .int a1)] := hl
            refine w_MO_count_113 l D cA b a1 C hml (xu st 0 0 0 0) (fun H locs ls hP hS hl => ?_) 9 0 0 _ _ ls lpi_st (lv_sub hl [2, 3, 1, 0] rfl) hP hS rfl
            have hl : lv_has ls 4 [(0, .ref (b + 0)), (1, .int a1), (2, .int (g_MO_count_113 9 (xu st 0 0 0 0) a1 0 0))] := hl
            refine lv_iload_n C.1 C.2.1 d_MO_count_143 rfl (lv_at hl 1 rfl) ?_
            by_cases h32 : a1 = 0
            · refine lv_tableIn (tgt := 188) (off := 44) C.1 C.2.1 d_MO_count_144 (by rw [h32]; decide) (by rw [h32]; decide) (by rw [h32]; rfl) (by decide) ?_
              refine lv_aload_n C.1 C.2.1 d_MO_count_188 rfl (lv_at hl 0 rfl) ?_
              refine xget C hP o_MO rfl c_MO (k := 1) (v := .int (st 0 1 0)) (by decide) wg_878 (congrArg Value.int (xu_f (by decide))) d_MO_count_189 ?_
              exact xri C hlk hr hP hS d_MO_count_192 ⟨by rw [f_MO_count, if_pos h1, if_neg h2, if_pos h21, if_neg h22, if_pos h31, if_pos h32], by rw [f_MO_count, if_pos h1, if_neg h2, if_pos h21, if_neg h22, if_pos h31, if_pos h32]⟩
            by_cases h33 : a1 = 1
            · refine lv_tableIn (tgt := 193) (off := 49) C.1 C.2.1 d_MO_count_144 (by rw [h33]; decide) (by rw [h33]; decide) (by rw [h33]; rfl) (by decide) ?_
              refine lv_aload_n C.1 C.2.1 d_MO_count_193 rfl (lv_at hl 0 rfl) ?_
              refine xget C hP o_MO rfl c_MO (k := 2) (v := .int (st 0 2 0)) (by decide) wg_879 (congrArg Value.int (xu_f (by decide))) d_MO_count_194 ?_
              exact xri C hlk hr hP hS d_MO_count_197 ⟨by rw [f_MO_count, if_pos h1, if_neg h2, if_pos h21, if_neg h22, if_pos h31, if_neg h32, if_pos h33], by rw [f_MO_count, if_pos h1, if_neg h2, if_pos h21, if_neg h22, if_pos h31, if_neg h32, if_pos h33]⟩
            by_cases h34 : a1 = 2
            · refine lv_tableIn (tgt := 198) (off := 54) C.1 C.2.1 d_MO_count_144 (by rw [h34]; decide) (by rw [h34]; decide) (by rw [h34]; rfl) (by decide) ?_
              refine lv_aload_n C.1 C.2.1 d_MO_count_198 rfl (lv_at hl 0 rfl) ?_
              refine xget C hP o_MO rfl c_MO (k := 39) (v := .int (st 0 39 0)) (by decide) wg_916 (congrArg Value.int (xu_f (by decide))) d_MO_count_199 ?_
              exact xri C hlk hr hP hS d_MO_count_202 ⟨by rw [f_MO_count, if_pos h1, if_neg h2, if_pos h21, if_neg h22, if_pos h31, if_neg h32, if_neg h33, if_pos h34], by rw [f_MO_count, if_pos h1, if_neg h2, if_pos h21, if_neg h22, if_pos h31, if_neg h32, if_neg h33, if_pos h34]⟩
            by_cases h35 : a1 = 3
            · refine lv_tableIn (tgt := 203) (off := 59) C.1 C.2.1 d_MO_count_144 (by rw [h35]; decide) (by rw [h35]; decide) (by rw [h35]; rfl) (by decide) ?_
              refine lv_aload_n C.1 C.2.1 d_MO_count_203 rfl (lv_at hl 0 rfl) ?_
              refine xget C hP o_MO rfl c_MO (k := 3) (v := .int (st 0 3 0)) (by decide) wg_880 (congrArg Value.int (xu_f (by decide))) d_MO_count_204 ?_
              exact xri C hlk hr hP hS d_MO_count_207 ⟨by rw [f_MO_count, if_pos h1, if_neg h2, if_pos h21, if_neg h22, if_pos h31, if_neg h32, if_neg h33, if_neg h34, if_pos h35], by rw [f_MO_count, if_pos h1, if_neg h2, if_pos h21, if_neg h22, if_pos h31, if_neg h32, if_neg h33, if_neg h34, if_pos h35]⟩
            by_cases h36 : a1 = 4
            · refine lv_tableIn (tgt := 208) (off := 64) C.1 C.2.1 d_MO_count_144 (by rw [h36]; decide) (by rw [h36]; decide) (by rw [h36]; rfl) (by decide) ?_
              refine lv_aload_n C.1 C.2.1 d_MO_count_208 rfl (lv_at hl 0 rfl) ?_
              refine xget C hP o_MO rfl c_MO (k := 48) (v := .int (st 0 48 0)) (by decide) wg_925 (congrArg Value.int (xu_f (by decide))) d_MO_count_209 ?_
              exact xri C hlk hr hP hS d_MO_count_212 ⟨by rw [f_MO_count, if_pos h1, if_neg h2, if_pos h21, if_neg h22, if_pos h31, if_neg h32, if_neg h33, if_neg h34, if_neg h35, if_pos h36], by rw [f_MO_count, if_pos h1, if_neg h2, if_pos h21, if_neg h22, if_pos h31, if_neg h32, if_neg h33, if_neg h34, if_neg h35, if_pos h36]⟩
            by_cases h37 : a1 = 5
            · refine lv_tableIn (tgt := 213) (off := 69) C.1 C.2.1 d_MO_count_144 (by rw [h37]; decide) (by rw [h37]; decide) (by rw [h37]; rfl) (by decide) ?_
              refine lv_aload_n C.1 C.2.1 d_MO_count_213 rfl (lv_at hl 0 rfl) ?_
              refine xget C hP o_MO rfl c_MO (k := 56) (v := .int (st 0 56 0)) (by decide) wg_933 (congrArg Value.int (xu_f (by decide))) d_MO_count_214 ?_
              exact xri C hlk hr hP hS d_MO_count_217 ⟨by rw [f_MO_count, if_pos h1, if_neg h2, if_pos h21, if_neg h22, if_pos h31, if_neg h32, if_neg h33, if_neg h34, if_neg h35, if_neg h36, if_pos h37], by rw [f_MO_count, if_pos h1, if_neg h2, if_pos h21, if_neg h22, if_pos h31, if_neg h32, if_neg h33, if_neg h34, if_neg h35, if_neg h36, if_pos h37]⟩
            by_cases h38 : a1 = 6
            · refine lv_tableIn (tgt := 218) (off := 74) C.1 C.2.1 d_MO_count_144 (by rw [h38]; decide) (by rw [h38]; decide) (by rw [h38]; rfl) (by decide) ?_
              refine lv_iload_n C.1 C.2.1 d_MO_count_218 rfl (lv_at hl 2 rfl) ?_
              refine lv_if_eq (tgt := 226) C.1 C.2.1 d_MO_count_219 (by decide) (fun h39 => ?_) (fun h39 => ?_)
              · refine lv_iconst (v := 0) C.1 C.2.1 d_MO_count_226 (by decide) ?_
                exact xri C hlk hr hP hS d_MO_count_227 ⟨by rw [f_MO_count, if_pos h1, if_neg h2, if_pos h21, if_neg h22, if_pos h31, if_neg h32, if_neg h33, if_neg h34, if_neg h35, if_neg h36, if_neg h37, if_pos h38, if_pos h39], by rw [f_MO_count, if_pos h1, if_neg h2, if_pos h21, if_neg h22, if_pos h31, if_neg h32, if_neg h33, if_neg h34, if_neg h35, if_neg h36, if_neg h37, if_pos h38, if_pos h39]⟩
              · refine lv_iconst (v := 1) C.1 C.2.1 d_MO_count_222 (by decide) ?_
                refine lv_goto (tgt := 227) C.1 C.2.1 d_MO_count_223 (by decide) ?_
                exact xri C hlk hr hP hS d_MO_count_227 ⟨by rw [f_MO_count, if_pos h1, if_neg h2, if_pos h21, if_neg h22, if_pos h31, if_neg h32, if_neg h33, if_neg h34, if_neg h35, if_neg h36, if_neg h37, if_pos h38, if_neg h39], by rw [f_MO_count, if_pos h1, if_neg h2, if_pos h21, if_neg h22, if_pos h31, if_neg h32, if_neg h33, if_neg h34, if_neg h35, if_neg h36, if_neg h37, if_pos h38, if_neg h39]⟩
            refine lv_tableOut (tgt := 228) C.1 C.2.1 d_MO_count_144 (by have eh32 := lv_neT h32 (a := 0) (by decide); have eh33 := lv_neT h33 (a := 1) (by decide); have eh34 := lv_neT h34 (a := 2) (by decide); have eh35 := lv_neT h35 (a := 3) (by decide); have eh36 := lv_neT h36 (a := 4) (by decide); have eh37 := lv_neT h37 (a := 5) (by decide); have eh38 := lv_neT h38 (a := 6) (by decide); omega) (by decide) ?_
            refine lv_iconst (v := (-1)) C.1 C.2.1 d_MO_count_228 (by decide) ?_
            exact xri C hlk hr hP hS d_MO_count_229 ⟨by rw [f_MO_count, if_pos h1, if_neg h2, if_pos h21, if_neg h22, if_pos h31, if_neg h32, if_neg h33, if_neg h34, if_neg h35, if_neg h36, if_neg h37, if_neg h38], by rw [f_MO_count, if_pos h1, if_neg h2, if_pos h21, if_neg h22, if_pos h31, if_neg h32, if_neg h33, if_neg h34, if_neg h35, if_neg h36, if_neg h37, if_neg h38]⟩
          · refine lv_aload_n C.1 C.2.1 d_MO_count_98 rfl (lv_at hl 0 rfl) ?_
            refine xget C hP o_MO rfl c_MO (k := 4) (v := .ref (b + 1)) (by decide) wg_881 rfl d_MO_count_99 ?_
            refine lv_iload_n C.1 C.2.1 d_MO_count_102 rfl (lv_at hl 1 rfl) ?_
            refine lv_sipush (v := 300) C.1 C.2.1 d_MO_count_103 (by decide) ?_
            refine lv_isub C.1 C.2.1 d_MO_count_106 ?_
            refine xiald C hP om_1 rfl (v := (st 1 ((a1 - 300)).toNatClampNeg 0)) (sb_in h22 (by decide) h31 (by decide)) (congrArg Value.int (xu_a (by decide))) d_MO_count_107 ?_
            exact xri C hlk hr hP hS d_MO_count_108 ⟨by rw [f_MO_count, if_pos h1, if_neg h2, if_pos h21, if_neg h22, if_neg h31], by rw [f_MO_count, if_pos h1, if_neg h2, if_pos h21, if_neg h22, if_neg h31]⟩
      · refine lv_iload_n C.1 C.2.1 d_MO_count_57 rfl (lv_at hl 1 rfl) ?_
        refine lv_sipush (v := 200) C.1 C.2.1 d_MO_count_58 (by decide) ?_
        refine lv_isub C.1 C.2.1 d_MO_count_61 ?_
        refine lv_aload_n C.1 C.2.1 d_MO_count_62 rfl (lv_at hl 0 rfl) ?_
        refine xget C hP o_MO rfl c_MO (k := 39) (v := .int (st 0 39 0)) (by decide) wg_916 (congrArg Value.int (xu_f (by decide))) d_MO_count_63 ?_
        refine lv_icmp_ge (tgt := 82) C.1 C.2.1 d_MO_count_66 (by decide) (fun h40 => ?_) (fun h40 => ?_)
        · refine lv_iconst (v := (-1)) C.1 C.2.1 d_MO_count_82 (by decide) ?_
          exact xri C hlk hr hP hS d_MO_count_83 ⟨by rw [f_MO_count, if_pos h1, if_neg h2, if_neg h21, if_pos h40], by rw [f_MO_count, if_pos h1, if_neg h2, if_neg h21, if_pos h40]⟩
        · refine lv_aload_n C.1 C.2.1 d_MO_count_69 rfl (lv_at hl 0 rfl) ?_
          refine xget C hP o_MO rfl c_MO (k := 40) (v := .ref (b + 36)) (by decide) wg_917 rfl d_MO_count_70 ?_
          refine lv_iload_n C.1 C.2.1 d_MO_count_73 rfl (lv_at hl 1 rfl) ?_
          refine lv_sipush (v := 200) C.1 C.2.1 d_MO_count_74 (by decide) ?_
          refine lv_isub C.1 C.2.1 d_MO_count_77 ?_
          refine xiald C hP om_36 rfl (v := (st 36 ((a1 - 200)).toNatClampNeg 0)) (sub_in h2 (by decide) h40 hq.2) (congrArg Value.int (xu_a (by decide))) d_MO_count_78 ?_
          refine lv_goto (tgt := 83) C.1 C.2.1 d_MO_count_79 (by decide) ?_
          exact xri C hlk hr hP hS d_MO_count_83 ⟨by rw [f_MO_count, if_pos h1, if_neg h2, if_neg h21, if_neg h40], by rw [f_MO_count, if_pos h1, if_neg h2, if_neg h21, if_neg h40]⟩
  · refine lv_iload_n C.1 C.2.1 d_MO_count_11 rfl (lv_at hl 1 rfl) ?_
    refine lv_sipush (v := 200) C.1 C.2.1 d_MO_count_12 (by decide) ?_
    refine lv_icmp_ge (tgt := 43) C.1 C.2.1 d_MO_count_15 (by decide) (fun h41 => ?_) (fun h41 => ?_)
    · refine lv_iload_n C.1 C.2.1 d_MO_count_43 rfl (lv_at hl 1 rfl) ?_
      refine lv_sipush (v := 200) C.1 C.2.1 d_MO_count_44 (by decide) ?_
      refine lv_icmp_lt (tgt := 84) C.1 C.2.1 d_MO_count_47 (by decide) (fun h42 => ?_) (fun h42 => ?_)
      · refine lv_iload_n C.1 C.2.1 d_MO_count_84 rfl (lv_at hl 1 rfl) ?_
        refine lv_sipush (v := 300) C.1 C.2.1 d_MO_count_85 (by decide) ?_
        refine lv_icmp_lt (tgt := 109) C.1 C.2.1 d_MO_count_88 (by decide) (fun h43 => ?_) (fun h43 => ?_)
        · refine lv_iconst (v := 0) C.1 C.2.1 d_MO_count_109 (by decide) ?_
          refine lv_istore_n C.1 C.2.1 d_MO_count_110 rfl hl (by decide) rfl (fun ls hl => ?_)
          have hl : lv_has ls 4 [(2, .int 0), (0, .ref (b + 0)), (1, .int a1)] := hl
          refine lv_iconst (v := 0) C.1 C.2.1 d_MO_count_111 (by decide) ?_
          refine lv_istore_n C.1 C.2.1 d_MO_count_112 rfl hl (by decide) rfl (fun ls hl => ?_)
          have hl : lv_has ls 4 [(3, .int 0), (2, .int 0), (0, .ref (b + 0)), (1, .int a1)] := hl
          refine w_MO_count_113 l D cA b a1 C hml (xu st 0 0 0 0) (fun H locs ls hP hS hl => ?_) 9 0 0 _ _ ls lpi_st (lv_sub hl [2, 3, 1, 0] rfl) hP hS rfl
          have hl : lv_has ls 4 [(0, .ref (b + 0)), (1, .int a1), (2, .int (g_MO_count_113 9 (xu st 0 0 0 0) a1 0 0))] := hl
          refine lv_iload_n C.1 C.2.1 d_MO_count_143 rfl (lv_at hl 1 rfl) ?_
          by_cases h44 : a1 = 0
          · refine lv_tableIn (tgt := 188) (off := 44) C.1 C.2.1 d_MO_count_144 (by rw [h44]; decide) (by rw [h44]; decide) (by rw [h44]; rfl) (by decide) ?_
            refine lv_aload_n C.1 C.2.1 d_MO_count_188 rfl (lv_at hl 0 rfl) ?_
            refine xget C hP o_MO rfl c_MO (k := 1) (v := .int (st 0 1 0)) (by decide) wg_878 (congrArg Value.int (xu_f (by decide))) d_MO_count_189 ?_
            exact xri C hlk hr hP hS d_MO_count_192 ⟨by rw [f_MO_count, if_neg h1, if_pos h41, if_pos h42, if_pos h43, if_pos h44], by rw [f_MO_count, if_neg h1, if_pos h41, if_pos h42, if_pos h43, if_pos h44]⟩
          by_cases h45 : a1 = 1
          · refine lv_tableIn (tgt := 193) (off := 49) C.1 C.2.1 d_MO_count_144 (by rw [h45]; decide) (by rw [h45]; decide) (by rw [h45]; rfl) (by decide) ?_
            refine lv_aload_n C.1 C.2.1 d_MO_count_193 rfl (lv_at hl 0 rfl) ?_
            refine xget C hP o_MO rfl c_MO (k := 2) (v := .int (st 0 2 0)) (by decide) wg_879 (congrArg Value.int (xu_f (by decide))) d_MO_count_194 ?_
            exact xri C hlk hr hP hS d_MO_count_197 ⟨by rw [f_MO_count, if_neg h1, if_pos h41, if_pos h42, if_pos h43, if_neg h44, if_pos h45], by rw [f_MO_count, if_neg h1, if_pos h41, if_pos h42, if_pos h43, if_neg h44, if_pos h45]⟩
          by_cases h46 : a1 = 2
          · refine lv_tableIn (tgt := 198) (off := 54) C.1 C.2.1 d_MO_count_144 (by rw [h46]; decide) (by rw [h46]; decide) (by rw [h46]; rfl) (by decide) ?_
            refine lv_aload_n C.1 C.2.1 d_MO_count_198 rfl (lv_at hl 0 rfl) ?_
            refine xget C hP o_MO rfl c_MO (k := 39) (v := .int (st 0 39 0)) (by decide) wg_916 (congrArg Value.int (xu_f (by decide))) d_MO_count_199 ?_
            exact xri C hlk hr hP hS d_MO_count_202 ⟨by rw [f_MO_count, if_neg h1, if_pos h41, if_pos h42, if_pos h43, if_neg h44, if_neg h45, if_pos h46], by rw [f_MO_count, if_neg h1, if_pos h41, if_pos h42, if_pos h43, if_neg h44, if_neg h45, if_pos h46]⟩
          by_cases h47 : a1 = 3
          · refine lv_tableIn (tgt := 203) (off := 59) C.1 C.2.1 d_MO_count_144 (by rw [h47]; decide) (by rw [h47]; decide) (by rw [h47]; rfl) (by decide) ?_
            refine lv_aload_n C.1 C.2.1 d_MO_count_203 rfl (lv_at hl 0 rfl) ?_
            refine xget C hP o_MO rfl c_MO (k := 3) (v := .int (st 0 3 0)) (by decide) wg_880 (congrArg Value.int (xu_f (by decide))) d_MO_count_204 ?_
            exact xri C hlk hr hP hS d_MO_count_207 ⟨by rw [f_MO_count, if_neg h1, if_pos h41, if_pos h42, if_pos h43, if_neg h44, if_neg h45, if_neg h46, if_pos h47], by rw [f_MO_count, if_neg h1, if_pos h41, if_pos h42, if_pos h43, if_neg h44, if_neg h45, if_neg h46, if_pos h47]⟩
          by_cases h48 : a1 = 4
          · refine lv_tableIn (tgt := 208) (off := 64) C.1 C.2.1 d_MO_count_144 (by rw [h48]; decide) (by rw [h48]; decide) (by rw [h48]; rfl) (by decide) ?_
            refine lv_aload_n C.1 C.2.1 d_MO_count_208 rfl (lv_at hl 0 rfl) ?_
            refine xget C hP o_MO rfl c_MO (k := 48) (v := .int (st 0 48 0)) (by decide) wg_925 (congrArg Value.int (xu_f (by decide))) d_MO_count_209 ?_
            exact xri C hlk hr hP hS d_MO_count_212 ⟨by rw [f_MO_count, if_neg h1, if_pos h41, if_pos h42, if_pos h43, if_neg h44, if_neg h45, if_neg h46, if_neg h47, if_pos h48], by rw [f_MO_count, if_neg h1, if_pos h41, if_pos h42, if_pos h43, if_neg h44, if_neg h45, if_neg h46, if_neg h47, if_pos h48]⟩
          by_cases h49 : a1 = 5
          · refine lv_tableIn (tgt := 213) (off := 69) C.1 C.2.1 d_MO_count_144 (by rw [h49]; decide) (by rw [h49]; decide) (by rw [h49]; rfl) (by decide) ?_
            refine lv_aload_n C.1 C.2.1 d_MO_count_213 rfl (lv_at hl 0 rfl) ?_
            refine xget C hP o_MO rfl c_MO (k := 56) (v := .int (st 0 56 0)) (by decide) wg_933 (congrArg Value.int (xu_f (by decide))) d_MO_count_214 ?_
            exact xri C hlk hr hP hS d_MO_count_217 ⟨by rw [f_MO_count, if_neg h1, if_pos h41, if_pos h42, if_pos h43, if_neg h44, if_neg h45, if_neg h46, if_neg h47, if_neg h48, if_pos h49], by rw [f_MO_count, if_neg h1, if_pos h41, if_pos h42, if_pos h43, if_neg h44, if_neg h45, if_neg h46, if_neg h47, if_neg h48, if_pos h49]⟩
          by_cases h50 : a1 = 6
          · refine lv_tableIn (tgt := 218) (off := 74) C.1 C.2.1 d_MO_count_144 (by rw [h50]; decide) (by rw [h50]; decide) (by rw [h50]; rfl) (by decide) ?_
            refine lv_iload_n C.1 C.2.1 d_MO_count_218 rfl (lv_at hl 2 rfl) ?_
            refine lv_if_eq (tgt := 226) C.1 C.2.1 d_MO_count_219 (by decide) (fun h51 => ?_) (fun h51 => ?_)
            · refine lv_iconst (v := 0) C.1 C.2.1 d_MO_count_226 (by decide) ?_
              exact xri C hlk hr hP hS d_MO_count_227 ⟨by rw [f_MO_count, if_neg h1, if_pos h41, if_pos h42, if_pos h43, if_neg h44, if_neg h45, if_neg h46, if_neg h47, if_neg h48, if_neg h49, if_pos h50, if_pos h51], by rw [f_MO_count, if_neg h1, if_pos h41, if_pos h42, if_pos h43, if_neg h44, if_neg h45, if_neg h46, if_neg h47, if_neg h48, if_neg h49, if_pos h50, if_pos h51]⟩
            · refine lv_iconst (v := 1) C.1 C.2.1 d_MO_count_222 (by decide) ?_
              refine lv_goto (tgt := 227) C.1 C.2.1 d_MO_count_223 (by decide) ?_
              exact xri C hlk hr hP hS d_MO_count_227 ⟨by rw [f_MO_count, if_neg h1, if_pos h41, if_pos h42, if_pos h43, if_neg h44, if_neg h45, if_neg h46, if_neg h47, if_neg h48, if_neg h49, if_pos h50, if_neg h51], by rw [f_MO_count, if_neg h1, if_pos h41, if_pos h42, if_pos h43, if_neg h44, if_neg h45, if_neg h46, if_neg h47, if_neg h48, if_neg h49, if_pos h50, if_neg h51]⟩
          refine lv_tableOut (tgt := 228) C.1 C.2.1 d_MO_count_144 (by have eh44 := lv_neT h44 (a := 0) (by decide); have eh45 := lv_neT h45 (a := 1) (by decide); have eh46 := lv_neT h46 (a := 2) (by decide); have eh47 := lv_neT h47 (a := 3) (by decide); have eh48 := lv_neT h48 (a := 4) (by decide); have eh49 := lv_neT h49 (a := 5) (by decide); have eh50 := lv_neT h50 (a := 6) (by decide); omega) (by decide) ?_
          refine lv_iconst (v := (-1)) C.1 C.2.1 d_MO_count_228 (by decide) ?_
          exact xri C hlk hr hP hS d_MO_count_229 ⟨by rw [f_MO_count, if_neg h1, if_pos h41, if_pos h42, if_pos h43, if_neg h44, if_neg h45, if_neg h46, if_neg h47, if_neg h48, if_neg h49, if_neg h50], by rw [f_MO_count, if_neg h1, if_pos h41, if_pos h42, if_pos h43, if_neg h44, if_neg h45, if_neg h46, if_neg h47, if_neg h48, if_neg h49, if_neg h50]⟩
        · refine lv_iload_n C.1 C.2.1 d_MO_count_91 rfl (lv_at hl 1 rfl) ?_
          refine lv_sipush (v := 304) C.1 C.2.1 d_MO_count_92 (by decide) ?_
          refine lv_icmp_ge (tgt := 109) C.1 C.2.1 d_MO_count_95 (by decide) (fun h52 => ?_) (fun h52 => ?_)
          · refine lv_iconst (v := 0) C.1 C.2.1 d_MO_count_109 (by decide) ?_
            refine lv_istore_n C.1 C.2.1 d_MO_count_110 rfl hl (by decide) rfl (fun ls hl => ?_)
            have hl : lv_has ls 4 [(2, .int 0), (0, .ref (b + 0)), (1, .int a1)] := hl
            refine lv_iconst (v := 0) C.1 C.2.1 d_MO_count_111 (by decide) ?_
            refine lv_istore_n C.1 C.2.1 d_MO_count_112 rfl hl (by decide) rfl (fun ls hl => ?_)
            have hl : lv_has ls 4 [(3, .int 0), (2, .int 0), (0, .ref (b + 0)), (1, .int a1)] := hl
            refine w_MO_count_113 l D cA b a1 C hml (xu st 0 0 0 0) (fun H locs ls hP hS hl => ?_) 9 0 0 _ _ ls lpi_st (lv_sub hl [2, 3, 1, 0] rfl) hP hS rfl
            have hl : lv_has ls 4 [(0, .ref (b + 0)), (1, .int a1), (2, .int (g_MO_count_113 9 (xu st 0 0 0 0) a1 0 0))] := hl
            refine lv_iload_n C.1 C.2.1 d_MO_count_143 rfl (lv_at hl 1 rfl) ?_
            by_cases h53 : a1 = 0
            · refine lv_tableIn (tgt := 188) (off := 44) C.1 C.2.1 d_MO_count_144 (by rw [h53]; decide) (by rw [h53]; decide) (by rw [h53]; rfl) (by decide) ?_
              refine lv_aload_n C.1 C.2.1 d_MO_count_188 rfl (lv_at hl 0 rfl) ?_
              refine xget C hP o_MO rfl c_MO (k := 1) (v := .int (st 0 1 0)) (by decide) wg_878 (congrArg Value.int (xu_f (by decide))) d_MO_count_189 ?_
              exact xri C hlk hr hP hS d_MO_count_192 ⟨by rw [f_MO_count, if_neg h1, if_pos h41, if_pos h42, if_neg h43, if_pos h52, if_pos h53], by rw [f_MO_count, if_neg h1, if_pos h41, if_pos h42, if_neg h43, if_pos h52, if_pos h53]⟩
            by_cases h54 : a1 = 1
            · refine lv_tableIn (tgt := 193) (off := 49) C.1 C.2.1 d_MO_count_144 (by rw [h54]; decide) (by rw [h54]; decide) (by rw [h54]; rfl) (by decide) ?_
              refine lv_aload_n C.1 C.2.1 d_MO_count_193 rfl (lv_at hl 0 rfl) ?_
              refine xget C hP o_MO rfl c_MO (k := 2) (v := .int (st 0 2 0)) (by decide) wg_879 (congrArg Value.int (xu_f (by decide))) d_MO_count_194 ?_
              exact xri C hlk hr hP hS d_MO_count_197 ⟨by rw [f_MO_count, if_neg h1, if_pos h41, if_pos h42, if_neg h43, if_pos h52, if_neg h53, if_pos h54], by rw [f_MO_count, if_neg h1, if_pos h41, if_pos h42, if_neg h43, if_pos h52, if_neg h53, if_pos h54]⟩
            by_cases h55 : a1 = 2
            · refine lv_tableIn (tgt := 198) (off := 54) C.1 C.2.1 d_MO_count_144 (by rw [h55]; decide) (by rw [h55]; decide) (by rw [h55]; rfl) (by decide) ?_
              refine lv_aload_n C.1 C.2.1 d_MO_count_198 rfl (lv_at hl 0 rfl) ?_
              refine xget C hP o_MO rfl c_MO (k := 39) (v := .int (st 0 39 0)) (by decide) wg_916 (congrArg Value.int (xu_f (by decide))) d_MO_count_199 ?_
              exact xri C hlk hr hP hS d_MO_count_202 ⟨by rw [f_MO_count, if_neg h1, if_pos h41, if_pos h42, if_neg h43, if_pos h52, if_neg h53, if_neg h54, if_pos h55], by rw [f_MO_count, if_neg h1, if_pos h41, if_pos h42, if_neg h43, if_pos h52, if_neg h53, if_neg h54, if_pos h55]⟩
            by_cases h56 : a1 = 3
            · refine lv_tableIn (tgt := 203) (off := 59) C.1 C.2.1 d_MO_count_144 (by rw [h56]; decide) (by rw [h56]; decide) (by rw [h56]; rfl) (by decide) ?_
              refine lv_aload_n C.1 C.2.1 d_MO_count_203 rfl (lv_at hl 0 rfl) ?_
              refine xget C hP o_MO rfl c_MO (k := 3) (v := .int (st 0 3 0)) (by decide) wg_880 (congrArg Value.int (xu_f (by decide))) d_MO_count_204 ?_
              exact xri C hlk hr hP hS d_MO_count_207 ⟨by rw [f_MO_count, if_neg h1, if_pos h41, if_pos h42, if_neg h43, if_pos h52, if_neg h53, if_neg h54, if_neg h55, if_pos h56], by rw [f_MO_count, if_neg h1, if_pos h41, if_pos h42, if_neg h43, if_pos h52, if_neg h53, if_neg h54, if_neg h55, if_pos h56]⟩
            by_cases h57 : a1 = 4
            · refine lv_tableIn (tgt := 208) (off := 64) C.1 C.2.1 d_MO_count_144 (by rw [h57]; decide) (by rw [h57]; decide) (by rw [h57]; rfl) (by decide) ?_
              refine lv_aload_n C.1 C.2.1 d_MO_count_208 rfl (lv_at hl 0 rfl) ?_
              refine xget C hP o_MO rfl c_MO (k := 48) (v := .int (st 0 48 0)) (by decide) wg_925 (congrArg Value.int (xu_f (by decide))) d_MO_count_209 ?_
              exact xri C hlk hr hP hS d_MO_count_212 ⟨by rw [f_MO_count, if_neg h1, if_pos h41, if_pos h42, if_neg h43, if_pos h52, if_neg h53, if_neg h54, if_neg h55, if_neg h56, if_pos h57], by rw [f_MO_count, if_neg h1, if_pos h41, if_pos h42, if_neg h43, if_pos h52, if_neg h53, if_neg h54, if_neg h55, if_neg h56, if_pos h57]⟩
            by_cases h58 : a1 = 5
            · refine lv_tableIn (tgt := 213) (off := 69) C.1 C.2.1 d_MO_count_144 (by rw [h58]; decide) (by rw [h58]; decide) (by rw [h58]; rfl) (by decide) ?_
              refine lv_aload_n C.1 C.2.1 d_MO_count_213 rfl (lv_at hl 0 rfl) ?_
              refine xget C hP o_MO rfl c_MO (k := 56) (v := .int (st 0 56 0)) (by decide) wg_933 (congrArg Value.int (xu_f (by decide))) d_MO_count_214 ?_
              exact xri C hlk hr hP hS d_MO_count_217 ⟨by rw [f_MO_count, if_neg h1, if_pos h41, if_pos h42, if_neg h43, if_pos h52, if_neg h53, if_neg h54, if_neg h55, if_neg h56, if_neg h57, if_pos h58], by rw [f_MO_count, if_neg h1, if_pos h41, if_pos h42, if_neg h43, if_pos h52, if_neg h53, if_neg h54, if_neg h55, if_neg h56, if_neg h57, if_pos h58]⟩
            by_cases h59 : a1 = 6
            · refine lv_tableIn (tgt := 218) (off := 74) C.1 C.2.1 d_MO_count_144 (by rw [h59]; decide) (by rw [h59]; decide) (by rw [h59]; rfl) (by decide) ?_
              refine lv_iload_n C.1 C.2.1 d_MO_count_218 rfl (lv_at hl 2 rfl) ?_
              refine lv_if_eq (tgt := 226) C.1 C.2.1 d_MO_count_219 (by decide) (fun h60 => ?_) (fun h60 => ?_)
              · refine lv_iconst (v := 0) C.1 C.2.1 d_MO_count_226 (by decide) ?_
                exact xri C hlk hr hP hS d_MO_count_227 ⟨by rw [f_MO_count, if_neg h1, if_pos h41, if_pos h42, if_neg h43, if_pos h52, if_neg h53, if_neg h54, if_neg h55, if_neg h56, if_neg h57, if_neg h58, if_pos h59, if_pos h60], by rw [f_MO_count, if_neg h1, if_pos h41, if_pos h42, if_neg h43, if_pos h52, if_neg h53, if_neg h54, if_neg h55, if_neg h56, if_neg h57, if_neg h58, if_pos h59, if_pos h60]⟩
              · refine lv_iconst (v := 1) C.1 C.2.1 d_MO_count_222 (by decide) ?_
                refine lv_goto (tgt := 227) C.1 C.2.1 d_MO_count_223 (by decide) ?_
                exact xri C hlk hr hP hS d_MO_count_227 ⟨by rw [f_MO_count, if_neg h1, if_pos h41, if_pos h42, if_neg h43, if_pos h52, if_neg h53, if_neg h54, if_neg h55, if_neg h56, if_neg h57, if_neg h58, if_pos h59, if_neg h60], by rw [f_MO_count, if_neg h1, if_pos h41, if_pos h42, if_neg h43, if_pos h52, if_neg h53, if_neg h54, if_neg h55, if_neg h56, if_neg h57, if_neg h58, if_pos h59, if_neg h60]⟩
            refine lv_tableOut (tgt := 228) C.1 C.2.1 d_MO_count_144 (by have eh53 := lv_neT h53 (a := 0) (by decide); have eh54 := lv_neT h54 (a := 1) (by decide); have eh55 := lv_neT h55 (a := 2) (by decide); have eh56 := lv_neT h56 (a := 3) (by decide); have eh57 := lv_neT h57 (a := 4) (by decide); have eh58 := lv_neT h58 (a := 5) (by decide); have eh59 := lv_neT h59 (a := 6) (by decide); omega) (by decide) ?_
            refine lv_iconst (v := (-1)) C.1 C.2.1 d_MO_count_228 (by decide) ?_
            exact xri C hlk hr hP hS d_MO_count_229 ⟨by rw [f_MO_count, if_neg h1, if_pos h41, if_pos h42, if_neg h43, if_pos h52, if_neg h53, if_neg h54, if_neg h55, if_neg h56, if_neg h57, if_neg h58, if_neg h59], by rw [f_MO_count, if_neg h1, if_pos h41, if_pos h42, if_neg h43, if_pos h52, if_neg h53, if_neg h54, if_neg h55, if_neg h56, if_neg h57, if_neg h58, if_neg h59]⟩
          · refine lv_aload_n C.1 C.2.1 d_MO_count_98 rfl (lv_at hl 0 rfl) ?_
            refine xget C hP o_MO rfl c_MO (k := 4) (v := .ref (b + 1)) (by decide) wg_881 rfl d_MO_count_99 ?_
            refine lv_iload_n C.1 C.2.1 d_MO_count_102 rfl (lv_at hl 1 rfl) ?_
            refine lv_sipush (v := 300) C.1 C.2.1 d_MO_count_103 (by decide) ?_
            refine lv_isub C.1 C.2.1 d_MO_count_106 ?_
            refine xiald C hP om_1 rfl (v := (st 1 ((a1 - 300)).toNatClampNeg 0)) (sb_in h43 (by decide) h52 (by decide)) (congrArg Value.int (xu_a (by decide))) d_MO_count_107 ?_
            exact xri C hlk hr hP hS d_MO_count_108 ⟨by rw [f_MO_count, if_neg h1, if_pos h41, if_pos h42, if_neg h43, if_neg h52], by rw [f_MO_count, if_neg h1, if_pos h41, if_pos h42, if_neg h43, if_neg h52]⟩
      · refine lv_iload_n C.1 C.2.1 d_MO_count_50 rfl (lv_at hl 1 rfl) ?_
        refine lv_sipush (v := 264) C.1 C.2.1 d_MO_count_51 (by decide) ?_
        refine lv_icmp_ge (tgt := 84) C.1 C.2.1 d_MO_count_54 (by decide) (fun h61 => ?_) (fun h61 => ?_)
        · refine lv_iload_n C.1 C.2.1 d_MO_count_84 rfl (lv_at hl 1 rfl) ?_
          refine lv_sipush (v := 300) C.1 C.2.1 d_MO_count_85 (by decide) ?_
          refine lv_icmp_lt (tgt := 109) C.1 C.2.1 d_MO_count_88 (by decide) (fun h62 => ?_) (fun h62 => ?_)
          · refine lv_iconst (v := 0) C.1 C.2.1 d_MO_count_109 (by decide) ?_
            refine lv_istore_n C.1 C.2.1 d_MO_count_110 rfl hl (by decide) rfl (fun ls hl => ?_)
            have hl : lv_has ls 4 [(2, .int 0), (0, .ref (b + 0)), (1, .int a1)] := hl
            refine lv_iconst (v := 0) C.1 C.2.1 d_MO_count_111 (by decide) ?_
            refine lv_istore_n C.1 C.2.1 d_MO_count_112 rfl hl (by decide) rfl (fun ls hl => ?_)
            have hl : lv_has ls 4 [(3, .int 0), (2, .int 0), (0, .ref (b + 0)), (1, .int a1)] := hl
            refine w_MO_count_113 l D cA b a1 C hml (xu st 0 0 0 0) (fun H locs ls hP hS hl => ?_) 9 0 0 _ _ ls lpi_st (lv_sub hl [2, 3, 1, 0] rfl) hP hS rfl
            have hl : lv_has ls 4 [(0, .ref (b + 0)), (1, .int a1), (2, .int (g_MO_count_113 9 (xu st 0 0 0 0) a1 0 0))] := hl
            refine lv_iload_n C.1 C.2.1 d_MO_count_143 rfl (lv_at hl 1 rfl) ?_
            by_cases h63 : a1 = 0
            · refine lv_tableIn (tgt := 188) (off := 44) C.1 C.2.1 d_MO_count_144 (by rw [h63]; decide) (by rw [h63]; decide) (by rw [h63]; rfl) (by decide) ?_
              refine lv_aload_n C.1 C.2.1 d_MO_count_188 rfl (lv_at hl 0 rfl) ?_
              refine xget C hP o_MO rfl c_MO (k := 1) (v := .int (st 0 1 0)) (by decide) wg_878 (congrArg Value.int (xu_f (by decide))) d_MO_count_189 ?_
              exact xri C hlk hr hP hS d_MO_count_192 ⟨by rw [f_MO_count, if_neg h1, if_pos h41, if_neg h42, if_pos h61, if_pos h62, if_pos h63], by rw [f_MO_count, if_neg h1, if_pos h41, if_neg h42, if_pos h61, if_pos h62, if_pos h63]⟩
            by_cases h64 : a1 = 1
            · refine lv_tableIn (tgt := 193) (off := 49) C.1 C.2.1 d_MO_count_144 (by rw [h64]; decide) (by rw [h64]; decide) (by rw [h64]; rfl) (by decide) ?_
              refine lv_aload_n C.1 C.2.1 d_MO_count_193 rfl (lv_at hl 0 rfl) ?_
              refine xget C hP o_MO rfl c_MO (k := 2) (v := .int (st 0 2 0)) (by decide) wg_879 (congrArg Value.int (xu_f (by decide))) d_MO_count_194 ?_
              exact xri C hlk hr hP hS d_MO_count_197 ⟨by rw [f_MO_count, if_neg h1, if_pos h41, if_neg h42, if_pos h61, if_pos h62, if_neg h63, if_pos h64], by rw [f_MO_count, if_neg h1, if_pos h41, if_neg h42, if_pos h61, if_pos h62, if_neg h63, if_pos h64]⟩
            by_cases h65 : a1 = 2
            · refine lv_tableIn (tgt := 198) (off := 54) C.1 C.2.1 d_MO_count_144 (by rw [h65]; decide) (by rw [h65]; decide) (by rw [h65]; rfl) (by decide) ?_
              refine lv_aload_n C.1 C.2.1 d_MO_count_198 rfl (lv_at hl 0 rfl) ?_
              refine xget C hP o_MO rfl c_MO (k := 39) (v := .int (st 0 39 0)) (by decide) wg_916 (congrArg Value.int (xu_f (by decide))) d_MO_count_199 ?_
              exact xri C hlk hr hP hS d_MO_count_202 ⟨by rw [f_MO_count, if_neg h1, if_pos h41, if_neg h42, if_pos h61, if_pos h62, if_neg h63, if_neg h64, if_pos h65], by rw [f_MO_count, if_neg h1, if_pos h41, if_neg h42, if_pos h61, if_pos h62, if_neg h63, if_neg h64, if_pos h65]⟩
            by_cases h66 : a1 = 3
            · refine lv_tableIn (tgt := 203) (off := 59) C.1 C.2.1 d_MO_count_144 (by rw [h66]; decide) (by rw [h66]; decide) (by rw [h66]; rfl) (by decide) ?_
              refine lv_aload_n C.1 C.2.1 d_MO_count_203 rfl (lv_at hl 0 rfl) ?_
              refine xget C hP o_MO rfl c_MO (k := 3) (v := .int (st 0 3 0)) (by decide) wg_880 (congrArg Value.int (xu_f (by decide))) d_MO_count_204 ?_
              exact xri C hlk hr hP hS d_MO_count_207 ⟨by rw [f_MO_count, if_neg h1, if_pos h41, if_neg h42, if_pos h61, if_pos h62, if_neg h63, if_neg h64, if_neg h65, if_pos h66], by rw [f_MO_count, if_neg h1, if_pos h41, if_neg h42, if_pos h61, if_pos h62, if_neg h63, if_neg h64, if_neg h65, if_pos h66]⟩
            by_cases h67 : a1 = 4
            · refine lv_tableIn (tgt := 208) (off := 64) C.1 C.2.1 d_MO_count_144 (by rw [h67]; decide) (by rw [h67]; decide) (by rw [h67]; rfl) (by decide) ?_
              refine lv_aload_n C.1 C.2.1 d_MO_count_208 rfl (lv_at hl 0 rfl) ?_
              refine xget C hP o_MO rfl c_MO (k := 48) (v := .int (st 0 48 0)) (by decide) wg_925 (congrArg Value.int (xu_f (by decide))) d_MO_count_209 ?_
              exact xri C hlk hr hP hS d_MO_count_212 ⟨by rw [f_MO_count, if_neg h1, if_pos h41, if_neg h42, if_pos h61, if_pos h62, if_neg h63, if_neg h64, if_neg h65, if_neg h66, if_pos h67], by rw [f_MO_count, if_neg h1, if_pos h41, if_neg h42, if_pos h61, if_pos h62, if_neg h63, if_neg h64, if_neg h65, if_neg h66, if_pos h67]⟩
            by_cases h68 : a1 = 5
            · refine lv_tableIn (tgt := 213) (off := 69) C.1 C.2.1 d_MO_count_144 (by rw [h68]; decide) (by rw [h68]; decide) (by rw [h68]; rfl) (by decide) ?_
              refine lv_aload_n C.1 C.2.1 d_MO_count_213 rfl (lv_at hl 0 rfl) ?_
              refine xget C hP o_MO rfl c_MO (k := 56) (v := .int (st 0 56 0)) (by decide) wg_933 (congrArg Value.int (xu_f (by decide))) d_MO_count_214 ?_
              exact xri C hlk hr hP hS d_MO_count_217 ⟨by rw [f_MO_count, if_neg h1, if_pos h41, if_neg h42, if_pos h61, if_pos h62, if_neg h63, if_neg h64, if_neg h65, if_neg h66, if_neg h67, if_pos h68], by rw [f_MO_count, if_neg h1, if_pos h41, if_neg h42, if_pos h61, if_pos h62, if_neg h63, if_neg h64, if_neg h65, if_neg h66, if_neg h67, if_pos h68]⟩
            by_cases h69 : a1 = 6
            · refine lv_tableIn (tgt := 218) (off := 74) C.1 C.2.1 d_MO_count_144 (by rw [h69]; decide) (by rw [h69]; decide) (by rw [h69]; rfl) (by decide) ?_
              refine lv_iload_n C.1 C.2.1 d_MO_count_218 rfl (lv_at hl 2 rfl) ?_
              refine lv_if_eq (tgt := 226) C.1 C.2.1 d_MO_count_219 (by decide) (fun h70 => ?_) (fun h70 => ?_)
              · refine lv_iconst (v := 0) C.1 C.2.1 d_MO_count_226 (by decide) ?_
                exact xri C hlk hr hP hS d_MO_count_227 ⟨by rw [f_MO_count, if_neg h1, if_pos h41, if_neg h42, if_pos h61, if_pos h62, if_neg h63, if_neg h64, if_neg h65, if_neg h66, if_neg h67, if_neg h68, if_pos h69, if_pos h70], by rw [f_MO_count, if_neg h1, if_pos h41, if_neg h42, if_pos h61, if_pos h62, if_neg h63, if_neg h64, if_neg h65, if_neg h66, if_neg h67, if_neg h68, if_pos h69, if_pos h70]⟩
              · refine lv_iconst (v := 1) C.1 C.2.1 d_MO_count_222 (by decide) ?_
                refine lv_goto (tgt := 227) C.1 C.2.1 d_MO_count_223 (by decide) ?_
                exact xri C hlk hr hP hS d_MO_count_227 ⟨by rw [f_MO_count, if_neg h1, if_pos h41, if_neg h42, if_pos h61, if_pos h62, if_neg h63, if_neg h64, if_neg h65, if_neg h66, if_neg h67, if_neg h68, if_pos h69, if_neg h70], by rw [f_MO_count, if_neg h1, if_pos h41, if_neg h42, if_pos h61, if_pos h62, if_neg h63, if_neg h64, if_neg h65, if_neg h66, if_neg h67, if_neg h68, if_pos h69, if_neg h70]⟩
            refine lv_tableOut (tgt := 228) C.1 C.2.1 d_MO_count_144 (by have eh63 := lv_neT h63 (a := 0) (by decide); have eh64 := lv_neT h64 (a := 1) (by decide); have eh65 := lv_neT h65 (a := 2) (by decide); have eh66 := lv_neT h66 (a := 3) (by decide); have eh67 := lv_neT h67 (a := 4) (by decide); have eh68 := lv_neT h68 (a := 5) (by decide); have eh69 := lv_neT h69 (a := 6) (by decide); omega) (by decide) ?_
            refine lv_iconst (v := (-1)) C.1 C.2.1 d_MO_count_228 (by decide) ?_
            exact xri C hlk hr hP hS d_MO_count_229 ⟨by rw [f_MO_count, if_neg h1, if_pos h41, if_neg h42, if_pos h61, if_pos h62, if_neg h63, if_neg h64, if_neg h65, if_neg h66, if_neg h67, if_neg h68, if_neg h69], by rw [f_MO_count, if_neg h1, if_pos h41, if_neg h42, if_pos h61, if_pos h62, if_neg h63, if_neg h64, if_neg h65, if_neg h66, if_neg h67, if_neg h68, if_neg h69]⟩
          · refine lv_iload_n C.1 C.2.1 d_MO_count_91 rfl (lv_at hl 1 rfl) ?_
            refine lv_sipush (v := 304) C.1 C.2.1 d_MO_count_92 (by decide) ?_
            refine lv_icmp_ge (tgt := 109) C.1 C.2.1 d_MO_count_95 (by decide) (fun h71 => ?_) (fun h71 => ?_)
            · refine lv_iconst (v := 0) C.1 C.2.1 d_MO_count_109 (by decide) ?_
              refine lv_istore_n C.1 C.2.1 d_MO_count_110 rfl hl (by decide) rfl (fun ls hl => ?_)
              have hl : lv_has ls 4 [(2, .int 0), (0, .ref (b + 0)), (1, .int a1)] := hl
              refine lv_iconst (v := 0) C.1 C.2.1 d_MO_count_111 (by decide) ?_
              refine lv_istore_n C.1 C.2.1 d_MO_count_112 rfl hl (by decide) rfl (fun ls hl => ?_)
              have hl : lv_has ls 4 [(3, .int 0), (2, .int 0), (0, .ref (b + 0)), (1, .int a1)] := hl
              refine w_MO_count_113 l D cA b a1 C hml (xu st 0 0 0 0) (fun H locs ls hP hS hl => ?_) 9 0 0 _ _ ls lpi_st (lv_sub hl [2, 3, 1, 0] rfl) hP hS rfl
              have hl : lv_has ls 4 [(0, .ref (b + 0)), (1, .int a1), (2, .int (g_MO_count_113 9 (xu st 0 0 0 0) a1 0 0))] := hl
              refine lv_iload_n C.1 C.2.1 d_MO_count_143 rfl (lv_at hl 1 rfl) ?_
              by_cases h72 : a1 = 0
              · refine lv_tableIn (tgt := 188) (off := 44) C.1 C.2.1 d_MO_count_144 (by rw [h72]; decide) (by rw [h72]; decide) (by rw [h72]; rfl) (by decide) ?_
                refine lv_aload_n C.1 C.2.1 d_MO_count_188 rfl (lv_at hl 0 rfl) ?_
                refine xget C hP o_MO rfl c_MO (k := 1) (v := .int (st 0 1 0)) (by decide) wg_878 (congrArg Value.int (xu_f (by decide))) d_MO_count_189 ?_
                exact xri C hlk hr hP hS d_MO_count_192 ⟨by rw [f_MO_count, if_neg h1, if_pos h41, if_neg h42, if_pos h61, if_neg h62, if_pos h71, if_pos h72], by rw [f_MO_count, if_neg h1, if_pos h41, if_neg h42, if_pos h61, if_neg h62, if_pos h71, if_pos h72]⟩
              by_cases h73 : a1 = 1
              · refine lv_tableIn (tgt := 193) (off := 49) C.1 C.2.1 d_MO_count_144 (by rw [h73]; decide) (by rw [h73]; decide) (by rw [h73]; rfl) (by decide) ?_
                refine lv_aload_n C.1 C.2.1 d_MO_count_193 rfl (lv_at hl 0 rfl) ?_
                refine xget C hP o_MO rfl c_MO (k := 2) (v := .int (st 0 2 0)) (by decide) wg_879 (congrArg Value.int (xu_f (by decide))) d_MO_count_194 ?_
                exact xri C hlk hr hP hS d_MO_count_197 ⟨by rw [f_MO_count, if_neg h1, if_pos h41, if_neg h42, if_pos h61, if_neg h62, if_pos h71, if_neg h72, if_pos h73], by rw [f_MO_count, if_neg h1, if_pos h41, if_neg h42, if_pos h61, if_neg h62, if_pos h71, if_neg h72, if_pos h73]⟩
              by_cases h74 : a1 = 2
              · refine lv_tableIn (tgt := 198) (off := 54) C.1 C.2.1 d_MO_count_144 (by rw [h74]; decide) (by rw [h74]; decide) (by rw [h74]; rfl) (by decide) ?_
                refine lv_aload_n C.1 C.2.1 d_MO_count_198 rfl (lv_at hl 0 rfl) ?_
                refine xget C hP o_MO rfl c_MO (k := 39) (v := .int (st 0 39 0)) (by decide) wg_916 (congrArg Value.int (xu_f (by decide))) d_MO_count_199 ?_
                exact xri C hlk hr hP hS d_MO_count_202 ⟨by rw [f_MO_count, if_neg h1, if_pos h41, if_neg h42, if_pos h61, if_neg h62, if_pos h71, if_neg h72, if_neg h73, if_pos h74], by rw [f_MO_count, if_neg h1, if_pos h41, if_neg h42, if_pos h61, if_neg h62, if_pos h71, if_neg h72, if_neg h73, if_pos h74]⟩
              by_cases h75 : a1 = 3
              · refine lv_tableIn (tgt := 203) (off := 59) C.1 C.2.1 d_MO_count_144 (by rw [h75]; decide) (by rw [h75]; decide) (by rw [h75]; rfl) (by decide) ?_
                refine lv_aload_n C.1 C.2.1 d_MO_count_203 rfl (lv_at hl 0 rfl) ?_
                refine xget C hP o_MO rfl c_MO (k := 3) (v := .int (st 0 3 0)) (by decide) wg_880 (congrArg Value.int (xu_f (by decide))) d_MO_count_204 ?_
                exact xri C hlk hr hP hS d_MO_count_207 ⟨by rw [f_MO_count, if_neg h1, if_pos h41, if_neg h42, if_pos h61, if_neg h62, if_pos h71, if_neg h72, if_neg h73, if_neg h74, if_pos h75], by rw [f_MO_count, if_neg h1, if_pos h41, if_neg h42, if_pos h61, if_neg h62, if_pos h71, if_neg h72, if_neg h73, if_neg h74, if_pos h75]⟩
              by_cases h76 : a1 = 4
              · refine lv_tableIn (tgt := 208) (off := 64) C.1 C.2.1 d_MO_count_144 (by rw [h76]; decide) (by rw [h76]; decide) (by rw [h76]; rfl) (by decide) ?_
                refine lv_aload_n C.1 C.2.1 d_MO_count_208 rfl (lv_at hl 0 rfl) ?_
                refine xget C hP o_MO rfl c_MO (k := 48) (v := .int (st 0 48 0)) (by decide) wg_925 (congrArg Value.int (xu_f (by decide))) d_MO_count_209 ?_
                exact xri C hlk hr hP hS d_MO_count_212 ⟨by rw [f_MO_count, if_neg h1, if_pos h41, if_neg h42, if_pos h61, if_neg h62, if_pos h71, if_neg h72, if_neg h73, if_neg h74, if_neg h75, if_pos h76], by rw [f_MO_count, if_neg h1, if_pos h41, if_neg h42, if_pos h61, if_neg h62, if_pos h71, if_neg h72, if_neg h73, if_neg h74, if_neg h75, if_pos h76]⟩
              by_cases h77 : a1 = 5
              · refine lv_tableIn (tgt := 213) (off := 69) C.1 C.2.1 d_MO_count_144 (by rw [h77]; decide) (by rw [h77]; decide) (by rw [h77]; rfl) (by decide) ?_
                refine lv_aload_n C.1 C.2.1 d_MO_count_213 rfl (lv_at hl 0 rfl) ?_
                refine xget C hP o_MO rfl c_MO (k := 56) (v := .int (st 0 56 0)) (by decide) wg_933 (congrArg Value.int (xu_f (by decide))) d_MO_count_214 ?_
                exact xri C hlk hr hP hS d_MO_count_217 ⟨by rw [f_MO_count, if_neg h1, if_pos h41, if_neg h42, if_pos h61, if_neg h62, if_pos h71, if_neg h72, if_neg h73, if_neg h74, if_neg h75, if_neg h76, if_pos h77], by rw [f_MO_count, if_neg h1, if_pos h41, if_neg h42, if_pos h61, if_neg h62, if_pos h71, if_neg h72, if_neg h73, if_neg h74, if_neg h75, if_neg h76, if_pos h77]⟩
              by_cases h78 : a1 = 6
              · refine lv_tableIn (tgt := 218) (off := 74) C.1 C.2.1 d_MO_count_144 (by rw [h78]; decide) (by rw [h78]; decide) (by rw [h78]; rfl) (by decide) ?_
                refine lv_iload_n C.1 C.2.1 d_MO_count_218 rfl (lv_at hl 2 rfl) ?_
                refine lv_if_eq (tgt := 226) C.1 C.2.1 d_MO_count_219 (by decide) (fun h79 => ?_) (fun h79 => ?_)
                · refine lv_iconst (v := 0) C.1 C.2.1 d_MO_count_226 (by decide) ?_
                  exact xri C hlk hr hP hS d_MO_count_227 ⟨by rw [f_MO_count, if_neg h1, if_pos h41, if_neg h42, if_pos h61, if_neg h62, if_pos h71, if_neg h72, if_neg h73, if_neg h74, if_neg h75, if_neg h76, if_neg h77, if_pos h78, if_pos h79], by rw [f_MO_count, if_neg h1, if_pos h41, if_neg h42, if_pos h61, if_neg h62, if_pos h71, if_neg h72, if_neg h73, if_neg h74, if_neg h75, if_neg h76, if_neg h77, if_pos h78, if_pos h79]⟩
                · refine lv_iconst (v := 1) C.1 C.2.1 d_MO_count_222 (by decide) ?_
                  refine lv_goto (tgt := 227) C.1 C.2.1 d_MO_count_223 (by decide) ?_
                  exact xri C hlk hr hP hS d_MO_count_227 ⟨by rw [f_MO_count, if_neg h1, if_pos h41, if_neg h42, if_pos h61, if_neg h62, if_pos h71, if_neg h72, if_neg h73, if_neg h74, if_neg h75, if_neg h76, if_neg h77, if_pos h78, if_neg h79], by rw [f_MO_count, if_neg h1, if_pos h41, if_neg h42, if_pos h61, if_neg h62, if_pos h71, if_neg h72, if_neg h73, if_neg h74, if_neg h75, if_neg h76, if_neg h77, if_pos h78, if_neg h79]⟩
              refine lv_tableOut (tgt := 228) C.1 C.2.1 d_MO_count_144 (by have eh72 := lv_neT h72 (a := 0) (by decide); have eh73 := lv_neT h73 (a := 1) (by decide); have eh74 := lv_neT h74 (a := 2) (by decide); have eh75 := lv_neT h75 (a := 3) (by decide); have eh76 := lv_neT h76 (a := 4) (by decide); have eh77 := lv_neT h77 (a := 5) (by decide); have eh78 := lv_neT h78 (a := 6) (by decide); omega) (by decide) ?_
              refine lv_iconst (v := (-1)) C.1 C.2.1 d_MO_count_228 (by decide) ?_
              exact xri C hlk hr hP hS d_MO_count_229 ⟨by rw [f_MO_count, if_neg h1, if_pos h41, if_neg h42, if_pos h61, if_neg h62, if_pos h71, if_neg h72, if_neg h73, if_neg h74, if_neg h75, if_neg h76, if_neg h77, if_neg h78], by rw [f_MO_count, if_neg h1, if_pos h41, if_neg h42, if_pos h61, if_neg h62, if_pos h71, if_neg h72, if_neg h73, if_neg h74, if_neg h75, if_neg h76, if_neg h77, if_neg h78]⟩
            · refine lv_aload_n C.1 C.2.1 d_MO_count_98 rfl (lv_at hl 0 rfl) ?_
              refine xget C hP o_MO rfl c_MO (k := 4) (v := .ref (b + 1)) (by decide) wg_881 rfl d_MO_count_99 ?_
              refine lv_iload_n C.1 C.2.1 d_MO_count_102 rfl (lv_at hl 1 rfl) ?_
              refine lv_sipush (v := 300) C.1 C.2.1 d_MO_count_103 (by decide) ?_
              refine lv_isub C.1 C.2.1 d_MO_count_106 ?_
              refine xiald C hP om_1 rfl (v := (st 1 ((a1 - 300)).toNatClampNeg 0)) (sb_in h62 (by decide) h71 (by decide)) (congrArg Value.int (xu_a (by decide))) d_MO_count_107 ?_
              exact xri C hlk hr hP hS d_MO_count_108 ⟨by rw [f_MO_count, if_neg h1, if_pos h41, if_neg h42, if_pos h61, if_neg h62, if_neg h71], by rw [f_MO_count, if_neg h1, if_pos h41, if_neg h42, if_pos h61, if_neg h62, if_neg h71]⟩
        · refine lv_iload_n C.1 C.2.1 d_MO_count_57 rfl (lv_at hl 1 rfl) ?_
          refine lv_sipush (v := 200) C.1 C.2.1 d_MO_count_58 (by decide) ?_
          refine lv_isub C.1 C.2.1 d_MO_count_61 ?_
          refine lv_aload_n C.1 C.2.1 d_MO_count_62 rfl (lv_at hl 0 rfl) ?_
          refine xget C hP o_MO rfl c_MO (k := 39) (v := .int (st 0 39 0)) (by decide) wg_916 (congrArg Value.int (xu_f (by decide))) d_MO_count_63 ?_
          refine lv_icmp_ge (tgt := 82) C.1 C.2.1 d_MO_count_66 (by decide) (fun h80 => ?_) (fun h80 => ?_)
          · refine lv_iconst (v := (-1)) C.1 C.2.1 d_MO_count_82 (by decide) ?_
            exact xri C hlk hr hP hS d_MO_count_83 ⟨by rw [f_MO_count, if_neg h1, if_pos h41, if_neg h42, if_neg h61, if_pos h80], by rw [f_MO_count, if_neg h1, if_pos h41, if_neg h42, if_neg h61, if_pos h80]⟩
          · refine lv_aload_n C.1 C.2.1 d_MO_count_69 rfl (lv_at hl 0 rfl) ?_
            refine xget C hP o_MO rfl c_MO (k := 40) (v := .ref (b + 36)) (by decide) wg_917 rfl d_MO_count_70 ?_
            refine lv_iload_n C.1 C.2.1 d_MO_count_73 rfl (lv_at hl 1 rfl) ?_
            refine lv_sipush (v := 200) C.1 C.2.1 d_MO_count_74 (by decide) ?_
            refine lv_isub C.1 C.2.1 d_MO_count_77 ?_
            refine xiald C hP om_36 rfl (v := (st 36 ((a1 - 200)).toNatClampNeg 0)) (sub_in h42 (by decide) h80 hq.2) (congrArg Value.int (xu_a (by decide))) d_MO_count_78 ?_
            refine lv_goto (tgt := 83) C.1 C.2.1 d_MO_count_79 (by decide) ?_
            exact xri C hlk hr hP hS d_MO_count_83 ⟨by rw [f_MO_count, if_neg h1, if_pos h41, if_neg h42, if_neg h61, if_neg h80], by rw [f_MO_count, if_neg h1, if_pos h41, if_neg h42, if_neg h61, if_neg h80]⟩
    · refine lv_iload_n C.1 C.2.1 d_MO_count_18 rfl (lv_at hl 1 rfl) ?_
      refine lv_bipush (v := 100) C.1 C.2.1 d_MO_count_19 (by decide) ?_
      refine lv_isub C.1 C.2.1 d_MO_count_21 ?_
      refine lv_aload_n C.1 C.2.1 d_MO_count_22 rfl (lv_at hl 0 rfl) ?_
      refine xget C hP o_MO rfl c_MO (k := 56) (v := .int (st 0 56 0)) (by decide) wg_933 (congrArg Value.int (xu_f (by decide))) d_MO_count_23 ?_
      refine lv_icmp_ge (tgt := 41) C.1 C.2.1 d_MO_count_26 (by decide) (fun h81 => ?_) (fun h81 => ?_)
      · refine lv_iconst (v := (-1)) C.1 C.2.1 d_MO_count_41 (by decide) ?_
        exact xri C hlk hr hP hS d_MO_count_42 ⟨by rw [f_MO_count, if_neg h1, if_neg h41, if_pos h81], by rw [f_MO_count, if_neg h1, if_neg h41, if_pos h81]⟩
      · refine lv_aload_n C.1 C.2.1 d_MO_count_29 rfl (lv_at hl 0 rfl) ?_
        refine xget C hP o_MO rfl c_MO (k := 61) (v := .ref (b + 55)) (by decide) wg_938 rfl d_MO_count_30 ?_
        refine lv_iload_n C.1 C.2.1 d_MO_count_33 rfl (lv_at hl 1 rfl) ?_
        refine lv_bipush (v := 100) C.1 C.2.1 d_MO_count_34 (by decide) ?_
        refine lv_isub C.1 C.2.1 d_MO_count_36 ?_
        refine xiald C hP om_55 rfl (v := (st 55 ((a1 - 100)).toNatClampNeg 0)) (sub_in h1 (by decide) h81 hoo.2) (congrArg Value.int (xu_a (by decide))) d_MO_count_37 ?_
        refine lv_goto (tgt := 42) C.1 C.2.1 d_MO_count_38 (by decide) ?_
        exact xri C hlk hr hP hS d_MO_count_42 ⟨by rw [f_MO_count, if_neg h1, if_neg h41, if_neg h81], by rw [f_MO_count, if_neg h1, if_neg h41, if_neg h81]⟩
