def g_DE_tie_7 : Nat → XS → Nat → Int32 → Int32 → XS
  | 0, st, d, a1, x2 => st
  | n + 1, st, d, a1, x2 =>
    if (st 8 5 d) ≤ x2 then st
    else (g_DE_tie_7 n (xu st 12 7 (20 * d + 4 * x2.toNatClampNeg) 0) d a1 (x2 + 1))
set_option maxRecDepth 100000 in
set_option maxHeartbeats 4000000 in
theorem w_DE_tie_7 (l : Launch) (D : va_G) (cA : Nat → ClassId) (b : Nat) (d : Nat) (hd : d < 8) (a1 : Int32) {p : Program} {e : Env} {s : State} {m : MethodId} {below : List Frame} {meth : Method} {c : Code} {Q : State → Prop} (C : xCx p s m ([.ref (b + (73 + 20 * d)), .int a1] : List Value).toArray c b_DE_tie y_DE_tie.cls D cA) (hml : c.maxLocals = 3) {stE : XS} (kx : ∀ (H1 : Heap) (locs1 : List Loc) (ls1 : Array Slot), xP cw D cA b stE H1 → va_S (xA cw b) s.heap H1 locs1 → lv_has ls1 3 [(0, .ref (b + (73 + 20 * d))), (1, .int a1)] → W p l e { frames := 0, cells := 0, slots := 0, locals := 0 } s m ([.ref (b + (73 + 20 * d)), .int a1] : List Value).toArray below meth c H1 locs1 0 0 Q (F0 m 31 ls1 [])) : ∀ (n : Nat) (st : XS) (x2 : Int32) (H : Heap) (locs : List Loc) (ls : Array Slot), lpi 4 n x2 → (st 8 5 d).toInt ≤ (4 : Nat) → lv_has ls 3 [(0, .ref (b + (73 + 20 * d))), (1, .int a1), (2, .int x2)] → xP cw D cA b st H → va_S (xA cw b) s.heap H locs → g_DE_tie_7 n st d a1 x2 = stE → W p l e { frames := 0, cells := 0, slots := 0, locals := 0 } s m ([.ref (b + (73 + 20 * d)), .int a1] : List Value).toArray below meth c H locs 0 0 Q (F0 m 7 ls []) := by
  intro n
  induction n with
  | zero =>
    intro st x2 H locs ls hx
    exact absurd hx (fun h => lpi_no h)
  | succ n ih =>
    intro st x2 H locs ls hx hi hl hP hS hg
    refine lv_iload_n C.1 C.2.1 d_DE_tie_7 rfl (lv_at hl 2 rfl) ?_
    refine lv_aload_n C.1 C.2.1 d_DE_tie_8 rfl (lv_at hl 0 rfl) ?_
    refine xget C hP (o_DE hd) rfl c_DE (k := 5) (v := .int (st 8 5 d)) (by decide) wg_290 rfl d_DE_tie_9 ?_
    refine lv_icmp_ge (tgt := 31) C.1 C.2.1 d_DE_tie_12 (by decide) (fun h1 => ?_) (fun h1 => ?_)
    · rw [g_DE_tie_7, if_pos h1] at hg
      subst hg
      exact kx _ _ ls hP hS (lv_sub hl [0, 1] rfl)
    · refine lv_aload_n C.1 C.2.1 d_DE_tie_15 rfl (lv_at hl 0 rfl) ?_
      refine xget C hP (o_DE hd) rfl c_DE (k := 0) (v := .ref (b + (74 + 20 * d))) (by decide) wg_280 rfl d_DE_tie_16 ?_
      refine lv_iload_n C.1 C.2.1 d_DE_tie_19 rfl (lv_at hl 2 rfl) ?_
      refine xaald C hP (o_ca hd) rfl (E := R_CH) rfl (v := b + (77 + (20 * d + 4 * x2.toNatClampNeg))) (lpi_ix hx (lpi_c hx h1 hi) (by decide)) rfl d_DE_tie_20 ?_
      refine lv_iconst (v := 0) C.1 C.2.1 d_DE_tie_21 (by decide) ?_
      refine xputNz cw_inj C hP hS (o_CH (cix_of hd (xin_lt (lpi_ix hx (lpi_c hx h1 hi) (by decide))))) rfl c_CH (k := 7) (x := 0) (by decide) wn_257 rfl bz_0 rfl rfl d_DE_tie_22 (fun H locs hP hS => ?_)
      refine lv_iinc (v := (x2 + 1)) C.1 C.2.1 d_DE_tie_25 hl (k := 2) rfl rfl (by decide) rfl (fun ls hl => ?_)
      have hl : lv_has ls 3 [(2, .int (x2 + 1)), (0, .ref (b + (73 + 20 * d))), (1, .int a1)] := hl
      refine lv_goto (tgt := 7) C.1 C.2.1 d_DE_tie_28 (by decide) ?_
      rw [g_DE_tie_7, if_neg h1] at hg
      exact ih _ _ _ _ ls (lpi_nx hx (lpi_c hx h1 hi) (by decide)) (by rw [xu_f (by decide)]; exact hi) (lv_sub hl [1, 2, 0] rfl) hP hS hg
theorem fr_DE_tie_7 {a' k' i' : Nat} (h : (a', k') ∉ ([(12, 7)] : List (Nat × Nat))) (h2 : a' ∉ ([] : List Nat)) : ∀ (n : Nat) (st : XS) (d : Nat) (a1 : Int32) (x2 : Int32), (g_DE_tie_7 n st d a1 x2) a' k' i' = st a' k' i' := by
  intro n
  induction n with
  | zero => intro st d a1 x2; rfl
  | succ n ih =>
    intro st d a1 x2
    unfold g_DE_tie_7
    repeat' split
    all_goals (try dsimp only)
    all_goals (repeat (first | with_reducible rfl | rw [xu_f (fun e => h (by rw [e]; decide))] | rw [ih]))
theorem pg_DE_tie_7 (n : Nat) (st : XS) (d : Nat) (a1 : Int32) (x2 : Int32) (h : pok st) : pok (g_DE_tie_7 n st d a1 x2) := pok_of h (fr_DE_tie_7 (by decide) (by decide) _ _ _ _ _ ) (fun _ => fr_DE_tie_7 (by simp) (by decide) _ _ _ _ _ )
def f_DE_tie (st : XS) (d : Nat) (a1 : Int32) : XS :=
  (g_DE_tie_7 5 (xu st 8 6 d a1) d a1 0)
set_option maxRecDepth 100000 in
set_option maxHeartbeats 4000000 in
theorem fr_DE_tie {st : XS} {d : Nat} {a1 : Int32} {a' k' i' : Nat} (h : (a', k') ∉ ([(8, 6), (12, 7)] : List (Nat × Nat))) (h2 : a' ∉ ([] : List Nat)) : (f_DE_tie st d a1) a' k' i' = st a' k' i' := by
  unfold f_DE_tie
  repeat' split
  all_goals (try dsimp only)
  all_goals (repeat (first | with_reducible rfl | rw [xu_f (fun e => h (by rw [e]; decide))] | rw [fr_DE_tie_7 (fun q => h ((by decide : ∀ z ∈ ([(12, 7)] : List (Nat × Nat)), z ∈ ([(8, 6), (12, 7)] : List (Nat × Nat))) _ q)) (fun q => h2 ((by decide : ∀ z ∈ ([] : List Nat), z ∈ ([] : List Nat)) _ q))]))
theorem p_DE_tie {st : XS} {d : Nat} {a1 : Int32} (h : pok st) : pok (f_DE_tie st d a1) := pok_of h (fr_DE_tie (by decide) (by decide)) (fun _ => fr_DE_tie (by simp) (by decide))
set_option maxRecDepth 100000 in
set_option maxHeartbeats 4000000 in
theorem k_DE_tie (l : Launch) (D : va_G) (cA : Nat → ClassId) (b : Nat) (st : XS) (d : Nat) (hd : d < 8) (a1 : Int32) (hb : (st 8 5 d).toInt ≤ (4 : Nat)) : xMv cw D cA b l y_DE_tie (Cond.code y_DE_tie b_DE_tie 3 none) { frames := 0, cells := 0, slots := 0, locals := 0 } st [.ref (b + (73 + 20 * d)), .int a1] (f_DE_tie st d a1) := by
  refine xMv_of rfl (by decide) (Nat.le_of_ble_eq_true rfl) ?_
  intro p e s m below meth c ls C hlk hr hml hl hP hS
  have hl : lv_has ls 3 [(0, .ref (b + (73 + 20 * d))), (1, .int a1)] := hl
  refine lv_aload_n C.1 C.2.1 d_DE_tie_0 rfl (lv_at hl 0 rfl) ?_
  refine lv_iload_n C.1 C.2.1 d_DE_tie_1 rfl (lv_at hl 1 rfl) ?_
  refine xput cw_inj C hP hS (o_DE hd) rfl c_DE (k := 6) (x := a1) (by decide) wg_292 rfl rfl rfl rfl d_DE_tie_2 (fun H locs hP hS => ?_)
  refine lv_iconst (v := 0) C.1 C.2.1 d_DE_tie_5 (by decide) ?_
  refine lv_istore_n C.1 C.2.1 d_DE_tie_6 rfl hl (by decide) rfl (fun ls hl => ?_)
  have hl : lv_has ls 3 [(2, .int 0), (0, .ref (b + (73 + 20 * d))), (1, .int a1)] := hl
  refine w_DE_tie_7 l D cA b d hd a1 C hml  (fun H locs ls hP hS hl => ?_) 5 (xu st 8 6 d a1) 0 _ _ ls lpi_st hb (lv_sub hl [1, 2, 0] rfl) hP hS rfl
  have hl : lv_has ls 3 [(0, .ref (b + (73 + 20 * d))), (1, .int a1)] := hl
  exact xrv C hlk hr hP hS d_DE_tie_31 (by rw [f_DE_tie])

def g_DE_beginLife_40 : Nat → XS → Nat → Int32 → XS
  | 0, st, d, x1 => st
  | n + 1, st, d, x1 =>
    if (st 8 5 d) ≤ x1 then st
    else (g_DE_beginLife_40 n (f_CH_forget st (20 * d + 4 * x1.toNatClampNeg)) d (x1 + 1))
set_option maxRecDepth 100000 in
set_option maxHeartbeats 4000000 in
theorem w_DE_beginLife_40 (l : Launch) (D : va_G) (cA : Nat → ClassId) (b : Nat) (d : Nat) (hd : d < 8) {p : Program} {e : Env} {s : State} {m : MethodId} {below : List Frame} {meth : Method} {c : Code} {Q : State → Prop} (C : xCx p s m ([.ref (b + (73 + 20 * d))] : List Value).toArray c b_DE_beginLife y_DE_beginLife.cls D cA) (hml : c.maxLocals = 2) {stE : XS} (kx : ∀ (H1 : Heap) (locs1 : List Loc) (ls1 : Array Slot), xP cw D cA b stE H1 → va_S (xA cw b) s.heap H1 locs1 → lv_has ls1 2 [(0, .ref (b + (73 + 20 * d)))] → W p l e { frames := 2, cells := 0, slots := 0, locals := 40 } s m ([.ref (b + (73 + 20 * d))] : List Value).toArray below meth c H1 locs1 0 0 Q (F0 m 63 ls1 [])) : ∀ (n : Nat) (st : XS) (x1 : Int32) (H : Heap) (locs : List Loc) (ls : Array Slot), lpi 4 n x1 → (st 8 5 d).toInt ≤ (4 : Nat) → lv_has ls 2 [(0, .ref (b + (73 + 20 * d))), (1, .int x1)] → xP cw D cA b st H → va_S (xA cw b) s.heap H locs → g_DE_beginLife_40 n st d x1 = stE → W p l e { frames := 2, cells := 0, slots := 0, locals := 40 } s m ([.ref (b + (73 + 20 * d))] : List Value).toArray below meth c H locs 0 0 Q (F0 m 40 ls []) := by
  intro n
  induction n with
  | zero =>
    intro st x1 H locs ls hx
    exact absurd hx (fun h => lpi_no h)
  | succ n ih =>
    intro st x1 H locs ls hx hi hl hP hS hg
    refine lv_iload_n C.1 C.2.1 d_DE_beginLife_40 rfl (lv_at hl 1 rfl) ?_
    refine lv_aload_n C.1 C.2.1 d_DE_beginLife_41 rfl (lv_at hl 0 rfl) ?_
    refine xget C hP (o_DE hd) rfl c_DE (k := 5) (v := .int (st 8 5 d)) (by decide) wg_290 rfl d_DE_beginLife_42 ?_
    refine lv_icmp_ge (tgt := 63) C.1 C.2.1 d_DE_beginLife_45 (by decide) (fun h1 => ?_) (fun h1 => ?_)
    · rw [g_DE_beginLife_40, if_pos h1] at hg
      subst hg
      exact kx _ _ ls hP hS (lv_sub hl [0] rfl)
    · refine lv_aload_n C.1 C.2.1 d_DE_beginLife_48 rfl (lv_at hl 0 rfl) ?_
      refine xget C hP (o_DE hd) rfl c_DE (k := 0) (v := .ref (b + (74 + 20 * d))) (by decide) wg_280 rfl d_DE_beginLife_49 ?_
      refine lv_iload_n C.1 C.2.1 d_DE_beginLife_52 rfl (lv_at hl 1 rfl) ?_
      refine xaald C hP (o_ca hd) rfl (E := R_CH) rfl (v := b + (77 + (20 * d + 4 * x1.toNatClampNeg))) (lpi_ix hx (lpi_c hx h1 hi) (by decide)) rfl d_DE_beginLife_53 ?_
      refine xcVNv (rest := []) C hml hl.1 (k_CH_forget l D cA b st (20 * d + 4 * x1.toNatClampNeg) (cix_of hd (xin_lt (lpi_ix hx (lpi_c hx h1 hi) (by decide))))) q_CH_forget rfl rfl wn_617 wg_619 ws_32 ⟨Nat.le_of_ble_eq_true rfl, Nat.le_of_ble_eq_true rfl⟩ hP hS (o_CH (cix_of hd (xin_lt (lpi_ix hx (lpi_c hx h1 hi) (by decide))))) rfl c_CH rfl (Nat.le_of_ble_eq_true rfl) d_DE_beginLife_54 rfl (fun H locs hP hS => ?_)
      refine lv_iinc (v := (x1 + 1)) C.1 C.2.1 d_DE_beginLife_57 hl (k := 1) rfl rfl (by decide) rfl (fun ls hl => ?_)
      have hl : lv_has ls 2 [(1, .int (x1 + 1)), (0, .ref (b + (73 + 20 * d)))] := hl
      refine lv_goto (tgt := 40) C.1 C.2.1 d_DE_beginLife_60 (by decide) ?_
      rw [g_DE_beginLife_40, if_neg h1] at hg
      exact ih _ _ _ _ ls (lpi_nx hx (lpi_c hx h1 hi) (by decide)) (by rw [fr_CH_forget (by decide) (by decide)]; exact hi) (lv_sub hl [1, 0] rfl) hP hS hg
theorem fr_DE_beginLife_40 {a' k' i' : Nat} (h : (a', k') ∉ ([(12, 4), (13, 4), (13, 6), (13, 7), (13, 8)] : List (Nat × Nat))) (h2 : a' ∉ ([] : List Nat)) : ∀ (n : Nat) (st : XS) (d : Nat) (x1 : Int32), (g_DE_beginLife_40 n st d x1) a' k' i' = st a' k' i' := by
  intro n
  induction n with
  | zero => intro st d x1; rfl
  | succ n ih =>
    intro st d x1
    unfold g_DE_beginLife_40
    repeat' split
    all_goals (try dsimp only)
    all_goals (repeat (first | with_reducible rfl | rw [xu_f (fun e => h (by rw [e]; decide))] | rw [fr_CH_forget (fun q => h ((by decide : ∀ z ∈ ([(12, 4), (13, 4), (13, 6), (13, 7), (13, 8)] : List (Nat × Nat)), z ∈ ([(12, 4), (13, 4), (13, 6), (13, 7), (13, 8)] : List (Nat × Nat))) _ q)) (fun q => h2 ((by decide : ∀ z ∈ ([] : List Nat), z ∈ ([] : List Nat)) _ q))] | rw [ih]))
theorem pg_DE_beginLife_40 (n : Nat) (st : XS) (d : Nat) (x1 : Int32) (h : pok st) : pok (g_DE_beginLife_40 n st d x1) := pok_of h (fr_DE_beginLife_40 (by decide) (by decide) _ _ _ _ ) (fun _ => fr_DE_beginLife_40 (by simp) (by decide) _ _ _ _ )
def f_DE_beginLife (st : XS) (d : Nat) : XS :=
  (g_DE_beginLife_40 5 (xu (xu (xu (xu (xu st 8 4 d ((st 8 4 d) + 1)) 8 6 d 0) 8 7 d (-1000000)) 10 5 d (-1000000)) 10 3 d 0) d 0)
set_option maxRecDepth 100000 in
set_option maxHeartbeats 4000000 in
theorem fr_DE_beginLife {st : XS} {d : Nat} {a' k' i' : Nat} (h : (a', k') ∉ ([(8, 4), (8, 6), (8, 7), (10, 3), (10, 5), (12, 4), (13, 4), (13, 6), (13, 7), (13, 8)] : List (Nat × Nat))) (h2 : a' ∉ ([] : List Nat)) : (f_DE_beginLife st d) a' k' i' = st a' k' i' := by
  unfold f_DE_beginLife
  repeat' split
  all_goals (try dsimp only)
  all_goals (repeat (first | with_reducible rfl | rw [xu_f (fun e => h (by rw [e]; decide))] | rw [fr_CH_forget (fun q => h ((by decide : ∀ z ∈ ([(12, 4), (13, 4), (13, 6), (13, 7), (13, 8)] : List (Nat × Nat)), z ∈ ([(8, 4), (8, 6), (8, 7), (10, 3), (10, 5), (12, 4), (13, 4), (13, 6), (13, 7), (13, 8)] : List (Nat × Nat))) _ q)) (fun q => h2 ((by decide : ∀ z ∈ ([] : List Nat), z ∈ ([] : List Nat)) _ q))] | rw [fr_DE_beginLife_40 (fun q => h ((by decide : ∀ z ∈ ([(12, 4), (13, 4), (13, 6), (13, 7), (13, 8)] : List (Nat × Nat)), z ∈ ([(8, 4), (8, 6), (8, 7), (10, 3), (10, 5), (12, 4), (13, 4), (13, 6), (13, 7), (13, 8)] : List (Nat × Nat))) _ q)) (fun q => h2 ((by decide : ∀ z ∈ ([] : List Nat), z ∈ ([] : List Nat)) _ q))]))
theorem p_DE_beginLife {st : XS} {d : Nat} (h : pok st) : pok (f_DE_beginLife st d) := pok_of h (fr_DE_beginLife (by decide) (by decide)) (fun _ => fr_DE_beginLife (by simp) (by decide))
set_option maxRecDepth 100000 in
set_option maxHeartbeats 4000000 in
theorem k_DE_beginLife (l : Launch) (D : va_G) (cA : Nat → ClassId) (b : Nat) (st : XS) (d : Nat) (hd : d < 8) (hb : (st 8 5 d).toInt ≤ (4 : Nat)) : xMv cw D cA b l y_DE_beginLife (Cond.code y_DE_beginLife b_DE_beginLife 2 none) { frames := 2, cells := 0, slots := 0, locals := 40 } st [.ref (b + (73 + 20 * d))] (f_DE_beginLife st d) := by
  refine xMv_of rfl (by decide) (Nat.le_of_ble_eq_true rfl) ?_
  intro p e s m below meth c ls C hlk hr hml hl hP hS
  have hl : lv_has ls 2 [(0, .ref (b + (73 + 20 * d)))] := hl
  refine lv_aload_n C.1 C.2.1 d_DE_beginLife_0 rfl (lv_at hl 0 rfl) ?_
  refine lv_dup C.1 C.2.1 d_DE_beginLife_1 rfl ?_
  refine xget C hP (o_DE hd) rfl c_DE (k := 4) (v := .int (st 8 4 d)) (by decide) wg_288 rfl d_DE_beginLife_2 ?_
  refine lv_iconst (v := 1) C.1 C.2.1 d_DE_beginLife_5 (by decide) ?_
  refine lv_iadd C.1 C.2.1 d_DE_beginLife_6 ?_
  refine xput cw_inj C hP hS (o_DE hd) rfl c_DE (k := 4) (x := ((st 8 4 d) + 1)) (by decide) wg_288 rfl rfl rfl rfl d_DE_beginLife_7 (fun H locs hP hS => ?_)
  refine lv_aload_n C.1 C.2.1 d_DE_beginLife_10 rfl (lv_at hl 0 rfl) ?_
  refine lv_iconst (v := 0) C.1 C.2.1 d_DE_beginLife_11 (by decide) ?_
  refine xput cw_inj C hP hS (o_DE hd) rfl c_DE (k := 6) (x := 0) (by decide) wg_292 rfl rfl rfl rfl d_DE_beginLife_12 (fun H locs hP hS => ?_)
  refine lv_aload_n C.1 C.2.1 d_DE_beginLife_15 rfl (lv_at hl 0 rfl) ?_
  refine lv_ldc (v := (-1000000)) C.1 C.2.1 C.2.2.1 (C.2.2.2.1 _ wg_171) d_DE_beginLife_16 ?_
  refine xput cw_inj C hP hS (o_DE hd) rfl c_DE (k := 7) (x := (-1000000)) (by decide) wg_294 rfl rfl rfl rfl d_DE_beginLife_18 (fun H locs hP hS => ?_)
  refine lv_aload_n C.1 C.2.1 d_DE_beginLife_21 rfl (lv_at hl 0 rfl) ?_
  refine xget C hP (o_DE hd) rfl c_DE (k := 1) (v := .ref (b + (75 + 20 * d))) (by decide) wg_282 rfl d_DE_beginLife_22 ?_
  refine lv_ldc (v := (-1000000)) C.1 C.2.1 C.2.2.1 (C.2.2.2.1 _ wg_171) d_DE_beginLife_25 ?_
  refine xputN cw_inj C hP hS (o_SE hd) rfl c_SE (k := 5) (x := (-1000000)) (by decide) wn_156 rfl rfl rfl rfl d_DE_beginLife_27 (fun H locs hP hS => ?_)
  refine lv_aload_n C.1 C.2.1 d_DE_beginLife_30 rfl (lv_at hl 0 rfl) ?_
  refine xget C hP (o_DE hd) rfl c_DE (k := 1) (v := .ref (b + (75 + 20 * d))) (by decide) wg_282 rfl d_DE_beginLife_31 ?_
  refine lv_iconst (v := 0) C.1 C.2.1 d_DE_beginLife_34 (by decide) ?_
  refine xputNz cw_inj C hP hS (o_SE hd) rfl c_SE (k := 3) (x := 0) (by decide) wn_151 rfl bz_0 rfl rfl d_DE_beginLife_35 (fun H locs hP hS => ?_)
  refine lv_iconst (v := 0) C.1 C.2.1 d_DE_beginLife_38 (by decide) ?_
  refine lv_istore_n C.1 C.2.1 d_DE_beginLife_39 rfl hl (by decide) rfl (fun ls hl => ?_)
  have hl : lv_has ls 2 [(1, .int 0), (0, .ref (b + (73 + 20 * d)))] := hl
  refine w_DE_beginLife_40 l D cA b d hd C hml  (fun H locs ls hP hS hl => ?_) 5 (xu (xu (xu (xu (xu st 8 4 d ((st 8 4 d) + 1)) 8 6 d 0) 8 7 d (-1000000)) 10 5 d (-1000000)) 10 3 d 0) 0 _ _ ls lpi_st (by (repeat rw [xu_f (by decide)]); exact hb) (lv_sub hl [1, 0] rfl) hP hS rfl
  have hl : lv_has ls 2 [(0, .ref (b + (73 + 20 * d)))] := hl
  exact xrv C hlk hr hP hS d_DE_beginLife_63 (by rw [f_DE_beginLife])

def g_DE_leastChannelWith_2 : Nat → XS → Nat → Int32 → Int32 → Int32
  | 0, st, d, a1, x2 => 0
  | n + 1, st, d, a1, x2 =>
    if (st 8 5 d) ≤ x2 then (-1)
    else if (st 12 3 (20 * d + 4 * x2.toNatClampNeg)) = a1 then x2
    else (g_DE_leastChannelWith_2 n st d a1 (x2 + 1))
set_option maxRecDepth 100000 in
set_option maxHeartbeats 4000000 in
theorem w_DE_leastChannelWith_2 (l : Launch) (D : va_G) (cA : Nat → ClassId) (b : Nat) (d : Nat) (hd : d < 8) (a1 : Int32) (st : XS) {p : Program} {e : Env} {s : State} {m : MethodId} {below : List Frame} {meth : Method} {c : Code} (C : xCx p s m ([.ref (b + (73 + 20 * d)), .int a1] : List Value).toArray c b_DE_leastChannelWith y_DE_leastChannelWith.cls D cA) (hlk : meth.locks = false) (hr : meth.sig.returnType = some .int) (hml : c.maxLocals = 3) {r : Int32} : ∀ (n : Nat) (x2 : Int32) (H : Heap) (locs : List Loc) (ls : Array Slot), lpi 4 n x2 → (st 8 5 d).toInt ≤ (4 : Nat) → lv_has ls 3 [(0, .ref (b + (73 + 20 * d))), (1, .int a1), (2, .int x2)] → xP cw D cA b st H → va_S (xA cw b) s.heap H locs → g_DE_leastChannelWith_2 n st d a1 x2 = r → W p l e { frames := 0, cells := 0, slots := 0, locals := 0 } s m ([.ref (b + (73 + 20 * d)), .int a1] : List Value).toArray below meth c H locs 0 0 (xEi cw D cA b below ([.ref (b + (73 + 20 * d)), .int a1] : List Value).toArray s r st) (F0 m 2 ls []) := by
  intro n
  induction n with
  | zero =>
    intro x2 H locs ls hx
    exact absurd hx (fun h => lpi_no h)
  | succ n ih =>
    intro x2 H locs ls hx hi hl hP hS hg
    refine lv_iload_n C.1 C.2.1 d_DE_leastChannelWith_2 rfl (lv_at hl 2 rfl) ?_
    refine lv_aload_n C.1 C.2.1 d_DE_leastChannelWith_3 rfl (lv_at hl 0 rfl) ?_
    refine xget C hP (o_DE hd) rfl c_DE (k := 5) (v := .int (st 8 5 d)) (by decide) wg_290 rfl d_DE_leastChannelWith_4 ?_
    refine lv_icmp_ge (tgt := 31) C.1 C.2.1 d_DE_leastChannelWith_7 (by decide) (fun h1 => ?_) (fun h1 => ?_)
    · refine lv_iconst (v := (-1)) C.1 C.2.1 d_DE_leastChannelWith_31 (by decide) ?_
      exact xri C hlk hr hP hS d_DE_leastChannelWith_32 ⟨by rw [g_DE_leastChannelWith_2, if_pos h1] at hg; exact hg, rfl⟩
    · refine lv_aload_n C.1 C.2.1 d_DE_leastChannelWith_10 rfl (lv_at hl 0 rfl) ?_
      refine xget C hP (o_DE hd) rfl c_DE (k := 0) (v := .ref (b + (74 + 20 * d))) (by decide) wg_280 rfl d_DE_leastChannelWith_11 ?_
      refine lv_iload_n C.1 C.2.1 d_DE_leastChannelWith_14 rfl (lv_at hl 2 rfl) ?_
      refine xaald C hP (o_ca hd) rfl (E := R_CH) rfl (v := b + (77 + (20 * d + 4 * x2.toNatClampNeg))) (lpi_ix hx (lpi_c hx h1 hi) (by decide)) rfl d_DE_leastChannelWith_15 ?_
      refine xgetN C hP (o_CH (cix_of hd (xin_lt (lpi_ix hx (lpi_c hx h1 hi) (by decide))))) rfl c_CH (k := 3) (v := .int (st 12 3 (20 * d + 4 * x2.toNatClampNeg))) (by decide) wn_249 rfl d_DE_leastChannelWith_16 ?_
      refine lv_iload_n C.1 C.2.1 d_DE_leastChannelWith_19 rfl (lv_at hl 1 rfl) ?_
      refine lv_icmp_ne (tgt := 25) C.1 C.2.1 d_DE_leastChannelWith_20 (by decide) (fun h2 => ?_) (fun h2 => ?_)
      · refine lv_iinc (v := (x2 + 1)) C.1 C.2.1 d_DE_leastChannelWith_25 hl (k := 2) rfl rfl (by decide) rfl (fun ls hl => ?_)
        have hl : lv_has ls 3 [(2, .int (x2 + 1)), (0, .ref (b + (73 + 20 * d))), (1, .int a1)] := hl
        refine lv_goto (tgt := 2) C.1 C.2.1 d_DE_leastChannelWith_28 (by decide) ?_
        rw [g_DE_leastChannelWith_2, if_neg h1, if_neg h2] at hg
        exact ih _ _ _ ls (lpi_nx hx (lpi_c hx h1 hi) (by decide)) hi (lv_sub hl [1, 2, 0] rfl) hP hS hg
      · refine lv_iload_n C.1 C.2.1 d_DE_leastChannelWith_23 rfl (lv_at hl 2 rfl) ?_
        exact xri C hlk hr hP hS d_DE_leastChannelWith_24 ⟨by rw [g_DE_leastChannelWith_2, if_neg h1, if_pos h2] at hg; exact hg, rfl⟩
def f_DE_leastChannelWith (st : XS) (d : Nat) (a1 : Int32) : Int32 :=
  (g_DE_leastChannelWith_2 5 st d a1 0)
set_option maxRecDepth 100000 in
set_option maxHeartbeats 4000000 in
theorem k_DE_leastChannelWith (l : Launch) (D : va_G) (cA : Nat → ClassId) (b : Nat) (st : XS) (d : Nat) (hd : d < 8) (a1 : Int32) (hb : (st 8 5 d).toInt ≤ (4 : Nat)) : xMi cw D cA b l y_DE_leastChannelWith (Cond.code y_DE_leastChannelWith b_DE_leastChannelWith 3 (some .int)) { frames := 0, cells := 0, slots := 0, locals := 0 } st [.ref (b + (73 + 20 * d)), .int a1] (f_DE_leastChannelWith st d a1) st := by
  refine xMi_of rfl (by decide) (Nat.le_of_ble_eq_true rfl) ?_
  intro p e s m below meth c ls C hlk hr hml hl hP hS
  have hl : lv_has ls 3 [(0, .ref (b + (73 + 20 * d))), (1, .int a1)] := hl
  refine lv_iconst (v := 0) C.1 C.2.1 d_DE_leastChannelWith_0 (by decide) ?_
  refine lv_istore_n C.1 C.2.1 d_DE_leastChannelWith_1 rfl hl (by decide) rfl (fun ls hl => ?_)
  have hl : lv_has ls 3 [(2, .int 0), (0, .ref (b + (73 + 20 * d))), (1, .int a1)] := hl
  exact w_DE_leastChannelWith_2 l D cA b d hd a1 st C hlk hr hml 5 0 _ _ ls lpi_st hb (lv_sub hl [1, 2, 0] rfl) hP hS (by rw [f_DE_leastChannelWith])

def g_DE_soundsAt_16 : Nat → XS → Nat → Int32 → Int32 → Int32
  | 0, st, d, a1, x2 => 0
  | n + 1, st, d, a1, x2 =>
    if (st 8 5 d) ≤ x2 then 0
    else if (f_AL_isLoud st (20 * d + 4 * x2.toNatClampNeg)) = 0 then (g_DE_soundsAt_16 n st d a1 (x2 + 1))
    else 1
set_option maxRecDepth 100000 in
set_option maxHeartbeats 4000000 in
theorem w_DE_soundsAt_16 (l : Launch) (D : va_G) (cA : Nat → ClassId) (b : Nat) (d : Nat) (hd : d < 8) (a1 : Int32) (st : XS) {p : Program} {e : Env} {s : State} {m : MethodId} {below : List Frame} {meth : Method} {c : Code} (C : xCx p s m ([.ref (b + (73 + 20 * d)), .int a1] : List Value).toArray c b_DE_soundsAt y_DE_soundsAt.cls D cA) (hlk : meth.locks = false) (hr : meth.sig.returnType = some .boolean) (hml : c.maxLocals = 3) {r : Int32} : ∀ (n : Nat) (x2 : Int32) (H : Heap) (locs : List Loc) (ls : Array Slot), lpi 4 n x2 → (st 8 5 d).toInt ≤ (4 : Nat) → lv_has ls 3 [(0, .ref (b + (73 + 20 * d))), (1, .int a1), (2, .int x2)] → xP cw D cA b st H → va_S (xA cw b) s.heap H locs → g_DE_soundsAt_16 n st d a1 x2 = r → W p l e { frames := 1, cells := 0, slots := 0, locals := 20 } s m ([.ref (b + (73 + 20 * d)), .int a1] : List Value).toArray below meth c H locs 0 0 (xEi cw D cA b below ([.ref (b + (73 + 20 * d)), .int a1] : List Value).toArray s r st) (F0 m 16 ls []) := by
  intro n
  induction n with
  | zero =>
    intro x2 H locs ls hx
    exact absurd hx (fun h => lpi_no h)
  | succ n ih =>
    intro x2 H locs ls hx hi hl hP hS hg
    refine lv_iload_n C.1 C.2.1 d_DE_soundsAt_16 rfl (lv_at hl 2 rfl) ?_
    refine lv_aload_n C.1 C.2.1 d_DE_soundsAt_17 rfl (lv_at hl 0 rfl) ?_
    refine xget C hP (o_DE hd) rfl c_DE (k := 5) (v := .int (st 8 5 d)) (by decide) wg_290 rfl d_DE_soundsAt_18 ?_
    refine lv_icmp_ge (tgt := 47) C.1 C.2.1 d_DE_soundsAt_21 (by decide) (fun h1 => ?_) (fun h1 => ?_)
    · refine lv_iconst (v := 0) C.1 C.2.1 d_DE_soundsAt_47 (by decide) ?_
      exact xrz C hlk hr bz_0 hP hS d_DE_soundsAt_48 ⟨by rw [g_DE_soundsAt_16, if_pos h1] at hg; exact hg, rfl⟩
    · refine lv_aload_n C.1 C.2.1 d_DE_soundsAt_24 rfl (lv_at hl 0 rfl) ?_
      refine xget C hP (o_DE hd) rfl c_DE (k := 0) (v := .ref (b + (74 + 20 * d))) (by decide) wg_280 rfl d_DE_soundsAt_25 ?_
      refine lv_iload_n C.1 C.2.1 d_DE_soundsAt_28 rfl (lv_at hl 2 rfl) ?_
      refine xaald C hP (o_ca hd) rfl (E := R_CH) rfl (v := b + (77 + (20 * d + 4 * x2.toNatClampNeg))) (lpi_ix hx (lpi_c hx h1 hi) (by decide)) rfl d_DE_soundsAt_29 ?_
      refine xgetN C hP (o_CH (cix_of hd (xin_lt (lpi_ix hx (lpi_c hx h1 hi) (by decide))))) rfl c_CH (k := 1) (v := .ref (b + (79 + (20 * d + 4 * x2.toNatClampNeg)))) (by decide) wn_244 rfl d_DE_soundsAt_30 ?_
      refine xcVNi (rest := []) C hml hl.1 (k_AL_isLoud l D cA b st (79 + (20 * d + 4 * x2.toNatClampNeg)) (20 * d + 4 * x2.toNatClampNeg) (o_AL (cix_of hd (xin_lt (lpi_ix hx (lpi_c hx h1 hi) (by decide)))))) q_AL_isLoud rfl rfl wn_834 wg_836 ws_46 ⟨Nat.le_of_ble_eq_true rfl, Nat.le_of_ble_eq_true rfl⟩ hP hS (o_AL (cix_of hd (xin_lt (lpi_ix hx (lpi_c hx h1 hi) (by decide))))) rfl c_AL rfl (Nat.le_of_ble_eq_true rfl) d_DE_soundsAt_33 rfl (fun H locs hP hS => ?_)
      refine lv_if_eq (tgt := 41) C.1 C.2.1 d_DE_soundsAt_36 (by decide) (fun h2 => ?_) (fun h2 => ?_)
      · refine lv_iinc (v := (x2 + 1)) C.1 C.2.1 d_DE_soundsAt_41 hl (k := 2) rfl rfl (by decide) rfl (fun ls hl => ?_)
        have hl : lv_has ls 3 [(2, .int (x2 + 1)), (0, .ref (b + (73 + 20 * d))), (1, .int a1)] := hl
        refine lv_goto (tgt := 16) C.1 C.2.1 d_DE_soundsAt_44 (by decide) ?_
        rw [g_DE_soundsAt_16, if_neg h1, if_pos h2] at hg
        exact ih _ _ _ ls (lpi_nx hx (lpi_c hx h1 hi) (by decide)) hi (lv_sub hl [1, 2, 0] rfl) hP hS hg
      · refine lv_iconst (v := 1) C.1 C.2.1 d_DE_soundsAt_39 (by decide) ?_
        exact xrz C hlk hr bz_1 hP hS d_DE_soundsAt_40 ⟨by rw [g_DE_soundsAt_16, if_neg h1, if_neg h2] at hg; exact hg, rfl⟩
theorem zg_DE_soundsAt_16 {st : XS} {d : Nat} {a1 : Int32} : ∀ (n : Nat) (x2 : Int32), bz (g_DE_soundsAt_16 n st d a1 x2) = g_DE_soundsAt_16 n st d a1 x2 := by
  intro n
  induction n with
  | zero => intro x; exact bz_0
  | succ n ih =>
    intro x
    unfold g_DE_soundsAt_16
    repeat' split
    all_goals first | exact bz_0 | exact bz_1 | exact bz_bz _ | exact ih _
def f_DE_soundsAt (st : XS) (d : Nat) (a1 : Int32) : Int32 :=
  if 3000 ≤ (a1 - (st 8 7 d)) then (g_DE_soundsAt_16 5 st d a1 0)
  else 0
set_option maxRecDepth 100000 in
set_option maxHeartbeats 4000000 in
theorem z_DE_soundsAt {st : XS} {d : Nat} {a1 : Int32} : bz (f_DE_soundsAt st d a1) = (f_DE_soundsAt st d a1) := by
  unfold f_DE_soundsAt
  repeat' split
  all_goals first | with_reducible exact bz_0 | with_reducible exact bz_1 | with_reducible exact bz_bz _ | with_reducible exact zg_DE_soundsAt_16 _ _ | with_reducible exact z_AL_isLoud
set_option maxRecDepth 100000 in
set_option maxHeartbeats 4000000 in
theorem k_DE_soundsAt (l : Launch) (D : va_G) (cA : Nat → ClassId) (b : Nat) (st : XS) (d : Nat) (hd : d < 8) (a1 : Int32) (hb : (st 8 5 d).toInt ≤ (4 : Nat)) : xMi cw D cA b l y_DE_soundsAt (Cond.code y_DE_soundsAt b_DE_soundsAt 3 (some .boolean)) { frames := 1, cells := 0, slots := 0, locals := 20 } st [.ref (b + (73 + 20 * d)), .int a1] (f_DE_soundsAt st d a1) st := by
  refine xMi_of rfl (by decide) (Nat.le_of_ble_eq_true rfl) ?_
  intro p e s m below meth c ls C hlk hr hml hl hP hS
  have hl : lv_has ls 3 [(0, .ref (b + (73 + 20 * d))), (1, .int a1)] := hl
  refine lv_iload_n C.1 C.2.1 d_DE_soundsAt_0 rfl (lv_at hl 1 rfl) ?_
  refine lv_aload_n C.1 C.2.1 d_DE_soundsAt_1 rfl (lv_at hl 0 rfl) ?_
  refine xget C hP (o_DE hd) rfl c_DE (k := 7) (v := .int (st 8 7 d)) (by decide) wg_294 rfl d_DE_soundsAt_2 ?_
  refine lv_isub C.1 C.2.1 d_DE_soundsAt_5 ?_
  refine lv_sipush (v := 3000) C.1 C.2.1 d_DE_soundsAt_6 (by decide) ?_
  refine lv_icmp_ge (tgt := 14) C.1 C.2.1 d_DE_soundsAt_9 (by decide) (fun h1 => ?_) (fun h1 => ?_)
  · refine lv_iconst (v := 0) C.1 C.2.1 d_DE_soundsAt_14 (by decide) ?_
    refine lv_istore_n C.1 C.2.1 d_DE_soundsAt_15 rfl hl (by decide) rfl (fun ls hl => ?_)
    have hl : lv_has ls 3 [(2, .int 0), (0, .ref (b + (73 + 20 * d))), (1, .int a1)] := hl
    exact w_DE_soundsAt_16 l D cA b d hd a1 st C hlk hr hml 5 0 _ _ ls lpi_st hb (lv_sub hl [1, 2, 0] rfl) hP hS (by rw [f_DE_soundsAt, if_pos h1])
  · refine lv_iconst (v := 0) C.1 C.2.1 d_DE_soundsAt_12 (by decide) ?_
    exact xrz C hlk hr bz_0 hP hS d_DE_soundsAt_13 ⟨by rw [f_DE_soundsAt, if_neg h1], rfl⟩

def g_DE_soundsAtStation_2 : Nat → XS → Nat → Int32 → Int32
  | 0, st, d, x1 => 0
  | n + 1, st, d, x1 =>
    if (st 8 5 d) ≤ x1 then 0
    else if (f_KN_sounds st (20 * d + 4 * x1.toNatClampNeg)) = 0 then (g_DE_soundsAtStation_2 n st d (x1 + 1))
    else 1
set_option maxRecDepth 100000 in
set_option maxHeartbeats 4000000 in
theorem w_DE_soundsAtStation_2 (l : Launch) (D : va_G) (cA : Nat → ClassId) (b : Nat) (d : Nat) (hd : d < 8) (st : XS) {p : Program} {e : Env} {s : State} {m : MethodId} {below : List Frame} {meth : Method} {c : Code} (C : xCx p s m ([.ref (b + (73 + 20 * d))] : List Value).toArray c b_DE_soundsAtStation y_DE_soundsAtStation.cls D cA) (hlk : meth.locks = false) (hr : meth.sig.returnType = some .boolean) (hml : c.maxLocals = 2) {r : Int32} : ∀ (n : Nat) (x1 : Int32) (H : Heap) (locs : List Loc) (ls : Array Slot), lpi 4 n x1 → (st 8 5 d).toInt ≤ (4 : Nat) → lv_has ls 2 [(0, .ref (b + (73 + 20 * d))), (1, .int x1)] → xP cw D cA b st H → va_S (xA cw b) s.heap H locs → g_DE_soundsAtStation_2 n st d x1 = r → W p l e { frames := 1, cells := 0, slots := 0, locals := 20 } s m ([.ref (b + (73 + 20 * d))] : List Value).toArray below meth c H locs 0 0 (xEi cw D cA b below ([.ref (b + (73 + 20 * d))] : List Value).toArray s r st) (F0 m 2 ls []) := by
  intro n
  induction n with
  | zero =>
    intro x1 H locs ls hx
    exact absurd hx (fun h => lpi_no h)
  | succ n ih =>
    intro x1 H locs ls hx hi hl hP hS hg
    refine lv_iload_n C.1 C.2.1 d_DE_soundsAtStation_2 rfl (lv_at hl 1 rfl) ?_
    refine lv_aload_n C.1 C.2.1 d_DE_soundsAtStation_3 rfl (lv_at hl 0 rfl) ?_
    refine xget C hP (o_DE hd) rfl c_DE (k := 5) (v := .int (st 8 5 d)) (by decide) wg_290 rfl d_DE_soundsAtStation_4 ?_
    refine lv_icmp_ge (tgt := 33) C.1 C.2.1 d_DE_soundsAtStation_7 (by decide) (fun h1 => ?_) (fun h1 => ?_)
    · refine lv_iconst (v := 0) C.1 C.2.1 d_DE_soundsAtStation_33 (by decide) ?_
      exact xrz C hlk hr bz_0 hP hS d_DE_soundsAtStation_34 ⟨by rw [g_DE_soundsAtStation_2, if_pos h1] at hg; exact hg, rfl⟩
    · refine lv_aload_n C.1 C.2.1 d_DE_soundsAtStation_10 rfl (lv_at hl 0 rfl) ?_
      refine xget C hP (o_DE hd) rfl c_DE (k := 0) (v := .ref (b + (74 + 20 * d))) (by decide) wg_280 rfl d_DE_soundsAtStation_11 ?_
      refine lv_iload_n C.1 C.2.1 d_DE_soundsAtStation_14 rfl (lv_at hl 1 rfl) ?_
      refine xaald C hP (o_ca hd) rfl (E := R_CH) rfl (v := b + (77 + (20 * d + 4 * x1.toNatClampNeg))) (lpi_ix hx (lpi_c hx h1 hi) (by decide)) rfl d_DE_soundsAtStation_15 ?_
      refine xgetN C hP (o_CH (cix_of hd (xin_lt (lpi_ix hx (lpi_c hx h1 hi) (by decide))))) rfl c_CH (k := 2) (v := .ref (b + (80 + (20 * d + 4 * x1.toNatClampNeg)))) (by decide) wn_246 rfl d_DE_soundsAtStation_16 ?_
      refine xcVNi (rest := []) C hml hl.1 (k_KN_sounds l D cA b st (80 + (20 * d + 4 * x1.toNatClampNeg)) (20 * d + 4 * x1.toNatClampNeg) (o_KN (cix_of hd (xin_lt (lpi_ix hx (lpi_c hx h1 hi) (by decide)))))) q_KN_sounds rfl rfl wn_637 wg_588 ws_29 ⟨Nat.le_of_ble_eq_true rfl, Nat.le_of_ble_eq_true rfl⟩ hP hS (o_KN (cix_of hd (xin_lt (lpi_ix hx (lpi_c hx h1 hi) (by decide))))) rfl c_KN rfl (Nat.le_of_ble_eq_true rfl) d_DE_soundsAtStation_19 rfl (fun H locs hP hS => ?_)
      refine lv_if_eq (tgt := 27) C.1 C.2.1 d_DE_soundsAtStation_22 (by decide) (fun h2 => ?_) (fun h2 => ?_)
      · refine lv_iinc (v := (x1 + 1)) C.1 C.2.1 d_DE_soundsAtStation_27 hl (k := 1) rfl rfl (by decide) rfl (fun ls hl => ?_)
        have hl : lv_has ls 2 [(1, .int (x1 + 1)), (0, .ref (b + (73 + 20 * d)))] := hl
        refine lv_goto (tgt := 2) C.1 C.2.1 d_DE_soundsAtStation_30 (by decide) ?_
        rw [g_DE_soundsAtStation_2, if_neg h1, if_pos h2] at hg
        exact ih _ _ _ ls (lpi_nx hx (lpi_c hx h1 hi) (by decide)) hi (lv_sub hl [1, 0] rfl) hP hS hg
      · refine lv_iconst (v := 1) C.1 C.2.1 d_DE_soundsAtStation_25 (by decide) ?_
        exact xrz C hlk hr bz_1 hP hS d_DE_soundsAtStation_26 ⟨by rw [g_DE_soundsAtStation_2, if_neg h1, if_neg h2] at hg; exact hg, rfl⟩
theorem zg_DE_soundsAtStation_2 {st : XS} {d : Nat} : ∀ (n : Nat) (x1 : Int32), bz (g_DE_soundsAtStation_2 n st d x1) = g_DE_soundsAtStation_2 n st d x1 := by
  intro n
  induction n with
  | zero => intro x; exact bz_0
  | succ n ih =>
    intro x
    unfold g_DE_soundsAtStation_2
    repeat' split
    all_goals first | exact bz_0 | exact bz_1 | exact bz_bz _ | exact ih _
def f_DE_soundsAtStation (st : XS) (d : Nat) : Int32 :=
  (g_DE_soundsAtStation_2 5 st d 0)
set_option maxRecDepth 100000 in
set_option maxHeartbeats 4000000 in
theorem z_DE_soundsAtStation {st : XS} {d : Nat} : bz (f_DE_soundsAtStation st d) = (f_DE_soundsAtStation st d) := by
  unfold f_DE_soundsAtStation
  repeat' split
  all_goals first | with_reducible exact bz_0 | with_reducible exact bz_1 | with_reducible exact bz_bz _ | with_reducible exact zg_DE_soundsAtStation_2 _ _ | with_reducible exact z_KN_sounds
set_option maxRecDepth 100000 in
set_option maxHeartbeats 4000000 in
theorem k_DE_soundsAtStation (l : Launch) (D : va_G) (cA : Nat → ClassId) (b : Nat) (st : XS) (d : Nat) (hd : d < 8) (hb : (st 8 5 d).toInt ≤ (4 : Nat)) : xMi cw D cA b l y_DE_soundsAtStation (Cond.code y_DE_soundsAtStation b_DE_soundsAtStation 2 (some .boolean)) { frames := 1, cells := 0, slots := 0, locals := 20 } st [.ref (b + (73 + 20 * d))] (f_DE_soundsAtStation st d) st := by
  refine xMi_of rfl (by decide) (Nat.le_of_ble_eq_true rfl) ?_
  intro p e s m below meth c ls C hlk hr hml hl hP hS
  have hl : lv_has ls 2 [(0, .ref (b + (73 + 20 * d)))] := hl
  refine lv_iconst (v := 0) C.1 C.2.1 d_DE_soundsAtStation_0 (by decide) ?_
  refine lv_istore_n C.1 C.2.1 d_DE_soundsAtStation_1 rfl hl (by decide) rfl (fun ls hl => ?_)
  have hl : lv_has ls 2 [(1, .int 0), (0, .ref (b + (73 + 20 * d)))] := hl
  exact w_DE_soundsAtStation_2 l D cA b d hd st C hlk hr hml 5 0 _ _ ls lpi_st hb (lv_sub hl [1, 0] rfl) hP hS (by rw [f_DE_soundsAtStation])
