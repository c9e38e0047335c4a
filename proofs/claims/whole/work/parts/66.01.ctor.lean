def vDE (z : Nat) : Nat → Value := updV (updV (updV (updV (updV (updV (updV (v0n 2) 0 (.ref z)) 1 (.ref (z + 1))) 2 (.int 0)) 3 (.int (-1))) 4 (.int 1)) 7 (.int (-1000000))) 8 (.int (-1000000))
def vPO (z : Nat) : Nat → Value := updV (v0n 1) 0 (.ref z)
def vBN (z : Nat) : Nat → Value := updV (updV (updV (updV (updV (updV (v0n 6) 0 (.ref z)) 1 (.ref (z + 1))) 2 (.ref (z + 2))) 3 (.ref (z + 3))) 4 (.ref (z + 4))) 5 (.ref (z + 71))
/-- the first i places of an array of references -/
def yfill (g : Nat → Nat) (i : Nat) : Nat → Value := fun c => if c < i then .ref (g c) else .null
theorem yfill_0 {g : Nat → Nat} : yfill g 0 = fun _ => .null := funext fun c => if_neg (Nat.not_lt_zero c)
theorem yfill_s {g : Nat → Nat} {i : Nat} : updV (yfill g i) i (.ref (g i)) = yfill g (i + 1) := by
  funext c
  unfold updV yfill
  by_cases e : c = i
  · rw [if_pos e, if_pos (by omega), e]
  · rw [if_neg e]
    by_cases e2 : c < i
    · rw [if_pos e2, if_pos (by omega)]
    · rw [if_neg e2, if_neg (by omega)]
theorem arrV_cg {cI : ClassId} {N : Nat} {f g : Nat → Value} (h : ∀ k, k < N → f k = g k) : arrV cI N f = arrV cI N g := by
  have e : (fun j : Fin N => f j.val) = fun j : Fin N => g j.val := funext fun j => h j.val j.isLt
  unfold arrV
  rw [e]
theorem xar.full {cA : Nat → ClassId} {t n a : Nat} {g : Nat → Nat} {H : Heap} (h : xar cA t n a (yfill g n) H) : xar cA t n a (fun c => .ref (g c)) H := by
  unfold xar at h ⊢
  have e : arrV (cA t) n (yfill g n) = arrV (cA t) n (fun c => .ref (g c)) := arrV_cg (fun k hk => if_pos hk)
  rw [h, e]
theorem nI_n {i : Nat} (h : i < 2 ^ 31) : (nI i).toNatClampNeg = i := nI_clamp h
def bDE (D : va_G) (cA : Nat → ClassId) (a z : Nat) (H : Heap) : Prop := xob D 2 a (vDE z) H ∧ xar cA 7 4 z (fun c => .ref (z + 3 + 4 * c)) H ∧ xob D 9 (z + 1) (vSE (z + 2)) H ∧ xob D 8 (z + 2) vRA H ∧ ∀ c, c < 4 → bCH D (z + 3 + 4 * c) (z + 3 + 4 * c + 1) H
theorem bDE.kept {D : va_G} {cA : Nat → ClassId} {a z : Nat} {H H1 : Heap} (h : bDE D cA a z H) (h1 : ∀ q, q = a ∨ (z ≤ q ∧ q < z + 19) → H1[q]? = H[q]?) : bDE D cA a z H1 := ⟨h.1.kept (h1 _ (Or.inl rfl)), h.2.1.kept (h1 _ (Or.inr ⟨by omega, by omega⟩)), h.2.2.1.kept (h1 _ (Or.inr ⟨by omega, by omega⟩)), h.2.2.2.1.kept (h1 _ (Or.inr ⟨by omega, by omega⟩)), fun c hc => (h.2.2.2.2 c hc).kept (fun q hq => h1 q (Or.inr ⟨by omega, by omega⟩))⟩
def bPO (D : va_G) (cA : Nat → ClassId) (a z : Nat) (H : Heap) : Prop := xob D 7 a (vPO z) H ∧ xar cA 6 65 z (fun k => .ref (z + 1 + k)) H ∧ ∀ k, k < 65 → xob D 5 (z + 1 + k) v0i H
def bBN (D : va_G) (cA : Nat → ClassId) (a z : Nat) (H : Heap) : Prop := xob D 10 a (vBN z) H ∧ xar cA 3 8 z (fun d => .ref (z + 72 + 20 * d)) H ∧ xar cA 0 4 (z + 1) (fun _ => .int 0) H ∧ xar cA 4 16 (z + 2) (fun k => .ref (z + 232 + k)) H ∧ xar cA 5 100 (z + 3) (fun k => .ref (z + 248 + k)) H ∧ xob D 7 (z + 4) (vPO (z + 5)) H ∧ xar cA 6 65 (z + 5) (fun k => .ref (z + 5 + 1 + k)) H ∧ (∀ k, k < 65 → xob D 5 (z + 5 + 1 + k) v0i H) ∧ xob D 5 (z + 71) v0i H ∧ (∀ d, d < 8 → bDE D cA (z + 72 + 20 * d) (z + 72 + 20 * d + 1) H) ∧ (∀ k, k < 16 → xob D 3 (z + 232 + k) vDI H) ∧ ∀ k, k < 100 → xob D 6 (z + 248 + k) vOR H
theorem v_BN : ∀ k, k < 9 → defaultValue (t_BN k) = (v0n 6) k := by
  intro k hk
  match k, hk with
  | 0, _ => rfl
  | 1, _ => rfl
  | 2, _ => rfl
  | 3, _ => rfl
  | 4, _ => rfl
  | 5, _ => rfl
  | 6, _ => rfl
  | 7, _ => rfl
  | 8, _ => rfl
set_option maxRecDepth 100000 in
set_option maxHeartbeats 4000000 in
theorem w_DE_init_52 (l : Launch) (D : va_G) (cA : Nat → ClassId) (a z : Nat) (ha : a < z) {p : Program} {e : Env} {s : State} {m : MethodId} {below : List Frame} {meth : Method} {c : Code} {Q : State → Prop} (C : xCx p s m #[.ref a] c b_DE_init y_DE_init.cls D cA) (hKA : KA s) (hml : c.maxLocals = 2) (hA9 : ∀ q, (q = a ∨ z ≤ q) → xAi a z q)
    (kx : ∀ (H : Heap) (locs : List Loc) (ls : Array Slot), lv_has ls 2 [(0, .ref a), (1, .int (nI 4))] → H.size = z + 19 → (xob D 2 a (vDE z) H) → (xob D 9 (z + 1) (vSE (z + 2)) H) → (xob D 8 (z + 2) vRA H) → xar cA 7 4 (z) (yfill (fun c => z + 3 + 4 * c) 4) H → (∀ c, c < 4 → bCH D (z + 3 + 4 * c) (z + 3 + 4 * c + 1) H) → va_S (xAi a z) s.heap H locs → W p l e { frames := 3, cells := 19, slots := 113, locals := 52 } s m #[.ref a] below meth c H locs 19 113 Q (F0 m 76 ls [])) :
    ∀ (n i : Nat) (H : Heap) (locs : List Loc) (ls : Array Slot), i + n = 4 → lv_has ls 2 [(0, .ref a), (1, .int (nI i))] → H.size = z + 3 + 4 * i → (xob D 2 a (vDE z) H) → (xob D 9 (z + 1) (vSE (z + 2)) H) → (xob D 8 (z + 2) vRA H) → xar cA 7 4 (z) (yfill (fun c => z + 3 + 4 * c) i) H → (∀ c, c < i → bCH D (z + 3 + 4 * c) (z + 3 + 4 * c + 1) H) → va_S (xAi a z) s.heap H locs → W p l e { frames := 3, cells := 19, slots := 113, locals := 52 } s m #[.ref a] below meth c H locs (3 + 4 * i) (13 + 25 * i) Q (F0 m 52 ls []) := by
  intro n
  induction n with
  | zero =>
    intro i H locs ls hi hl hz hT hs hr1 hR hF hS
    obtain rfl : i = 4 := by omega
    refine lv_iload_n C.1 C.2.1 d_DE_init_52 rfl (lv_at hl 1 rfl) ?_
    refine lv_iconst (v := 4) C.1 C.2.1 d_DE_init_53 (by decide) ?_
    refine lv_icmp_ge (tgt := 76) C.1 C.2.1 d_DE_init_54 (by decide) (fun hg9 => ?_) (fun hg9 => ?_)
    · exact kx H locs ls hl hz hT hs hr1 hR hF hS
    · exact absurd (by decide) hg9
  | succ n ih =>
    intro i H locs ls hi hl hz hT hs hr1 hR hF hS
    have hiN : i < 4 := by omega
    refine lv_iload_n C.1 C.2.1 d_DE_init_52 rfl (lv_at hl 1 rfl) ?_
    refine lv_iconst (v := 4) C.1 C.2.1 d_DE_init_53 (by decide) ?_
    refine lv_icmp_ge (tgt := 76) C.1 C.2.1 d_DE_init_54 (by decide) (fun hg9 => ?_) (fun hg9 => ?_)
    · exact absurd hg9 (nI_ge (show i < 4 by omega) (by decide))
    · refine lv_aload_n C.1 C.2.1 d_DE_init_57 rfl (lv_at hl 0 rfl) ?_
      refine yget C c_DE hT (k := 0) (v := .ref (z)) (by decide) wg_280 rfl d_DE_init_58 ?_
      refine lv_iload_n C.1 C.2.1 d_DE_init_61 rfl (lv_at hl 1 rfl) ?_
      refine ynew C c_CH (V := (v0n 3)) wg_119 wg_172 wg_7 hz v_CH (by show (3 + 4 * i) + 1 ≤ 19; omega) (by show (13 + 25 * i) + 9 ≤ 113; omega) hS d_DE_init_62 (fun H1 hN hz1 o1 hS => ?_)
      have hT := hT.kept (o1 _ (by omega))
      have hs := hs.kept (o1 _ (by omega))
      have hr1 := hr1.kept (o1 _ (by omega))
      have hR := hR.kept (o1 _ (by omega))
      have hF := fun c hc => (hF c hc).kept (fun q hq => o1 q (by omega))
      have hz := hz1
      refine lv_dup C.1 C.2.1 d_DE_init_65 rfl ?_
      refine ycallN (rest := [.ref (z + 3 + 4 * i), .int (nI i), .ref (z)]) C hKA hml hl.1 (k_CH_init l D cA (z + 3 + 4 * i) (z + 3 + 4 * i + 1) (by omega)) q_CH_init rfl rfl wn_173 wg_174 rfl ⟨Nat.le_of_ble_eq_true rfl, Nat.le_of_ble_eq_true rfl⟩ (by show (3 + 4 * i) + 1 + 3 ≤ 19; omega) (by show (13 + 25 * i) + 9 + 16 ≤ 113; omega) hz hN hS (fun q hq => by rcases hq with hq | hq <;> exact hA9 _ (by omega)) (Nat.le_of_ble_eq_true rfl) d_DE_init_66 (fun H1 locs hN hz1 o1 hS => ?_)
      have hT := hT.kept (o1 _ (by omega) (by omega))
      have hs := hs.kept (o1 _ (by omega) (by omega))
      have hr1 := hr1.kept (o1 _ (by omega) (by omega))
      have hR := hR.kept (o1 _ (by omega) (by omega))
      have hF := fun c hc => (hF c hc).kept (fun q hq => o1 q (by omega) (by omega))
      have hz := hz1
      refine yaast C c_CH hN.1 (t := 7) rfl hR (vp_in_nI hiN (by decide)) hS (hA9 _ (by omega)) d_DE_init_69 (fun H1 locs hR hz1 o1 hS => ?_)
      have hT := hT.kept (o1 _ (by omega))
      have hs := hs.kept (o1 _ (by omega))
      have hr1 := hr1.kept (o1 _ (by omega))
      have hF := fun c hc => (hF c hc).kept (fun q hq => o1 q (by omega))
      have hN := hN.kept (fun q hq => o1 q (by omega))
      have hz := hz1.trans hz
      rw [nI_n (by omega), yfill_s (g := (fun c => z + 3 + 4 * c))] at hR
      refine lv_iinc (v := nI (i + 1)) C.1 C.2.1 d_DE_init_70 hl (k := 1) rfl (nI_1 i) (by decide) rfl (fun ls hl => ?_)
      refine lv_goto (tgt := 52) C.1 C.2.1 d_DE_init_73 (by decide) ?_
      refine W.cs (cells' := (3 + 4 * (i + 1))) (slots' := (13 + 25 * (i + 1))) (by omega) (by omega) ?_
      refine ih (i + 1) _ _ ls (by omega) (lv_sub hl [1, 0] rfl) (by omega) hT hs hr1 hR (fun c hc => ?_) hS
      by_cases e9 : c < i
      · exact hF c e9
      · obtain rfl : c = i := by omega
        exact hN
set_option maxRecDepth 100000 in
set_option maxHeartbeats 4000000 in
theorem k_DE_init (l : Launch) (D : va_G) (cA : Nat → ClassId) (a z : Nat) (ha : a < z) : xIc D cA l y_DE_init (Cond.code y_DE_init b_DE_init 2 none) { frames := 3, cells := 19, slots := 113, locals := 52 } a z 2 (v0n 2) 19 113 (bDE D cA a z) := by
  refine xIc_of (nL := 2) rfl (by decide) (by decide) rfl ?_
  intro p e s m below meth c ls C hKA hin hlk hr hml hl hz hT hS
  have hA9 : ∀ q, (q = a ∨ z ≤ q) → xAi a z q := fun q h => h
  refine lv_aload_n C.1 C.2.1 d_DE_init_0 rfl (lv_at hl 0 rfl) ?_
  refine yobj C hml hl.1 wg_118 wg_27 wg_28 (Nat.le_of_ble_eq_true rfl) (Nat.le_of_ble_eq_true rfl) d_DE_init_1 ?_
  refine lv_aload_n C.1 C.2.1 d_DE_init_4 rfl (lv_at hl 0 rfl) ?_
  refine lv_iconst (v := 4) C.1 C.2.1 d_DE_init_5 (by decide) ?_
  refine yanew (N := 4) C (t := 7) (E := R_CH) rfl wg_119 hKA.2.2.2.2 hz (by decide) (by decide) (by decide) (Nat.le_of_ble_eq_true rfl) (Nat.le_of_ble_eq_true rfl) hS d_DE_init_6 (fun H1 h0 hz1 o1 hS => ?_)
  have hT := hT.kept (o1 _ (by omega))
  have hz := hz1
  refine yputF C hin c_DE hT (k := 0) (v := .ref z) (by decide) wg_280 rfl rfl rfl rfl hS (hA9 _ (by omega)) d_DE_init_9 (fun H1 locs hT hz1 o1 hS => ?_)
  have h0 := h0.kept (o1 _ (by omega))
  have hz := hz1.trans hz
  refine lv_aload_n C.1 C.2.1 d_DE_init_12 rfl (lv_at hl 0 rfl) ?_
  refine ynew C c_SE (V := (v0n 1)) wg_121 wg_122 wg_5 hz v_SE (Nat.le_of_ble_eq_true rfl) (Nat.le_of_ble_eq_true rfl) hS d_DE_init_13 (fun H1 h1 hz1 o1 hS => ?_)
  have hT := hT.kept (o1 _ (by omega))
  have h0 := h0.kept (o1 _ (by omega))
  have hz := hz1
  refine lv_dup C.1 C.2.1 d_DE_init_16 rfl ?_
  refine ycallN (rest := [.ref (z + 1), .ref a]) C hKA hml hl.1 (k_SE_init l D cA (z + 1) (z + 2) (by omega)) q_SE_init rfl rfl wn_123 wg_124 rfl ⟨Nat.le_of_ble_eq_true rfl, Nat.le_of_ble_eq_true rfl⟩ (Nat.le_of_ble_eq_true rfl) (Nat.le_of_ble_eq_true rfl) hz h1 hS (fun q hq => by rcases hq with hq | hq <;> exact hA9 _ (by omega)) (Nat.le_of_ble_eq_true rfl) d_DE_init_17 (fun H1 locs h1 hz1 o1 hS => ?_)
  have hT := hT.kept (o1 _ (by omega) (by omega))
  have h0 := h0.kept (o1 _ (by omega) (by omega))
  have hz := hz1
  obtain ⟨h1, h1_1⟩ := h1
  refine yputF C hin c_DE hT (k := 1) (v := .ref (z + 1)) (by decide) wg_282 rfl rfl rfl rfl hS (hA9 _ (by omega)) d_DE_init_20 (fun H1 locs hT hz1 o1 hS => ?_)
  have h0 := h0.kept (o1 _ (by omega))
  have h1 := h1.kept (o1 _ (by omega))
  have h1_1 := h1_1.kept (o1 _ (by omega))
  have hz := hz1.trans hz
  refine lv_aload_n C.1 C.2.1 d_DE_init_23 rfl (lv_at hl 0 rfl) ?_
  refine lv_iconst (v := 0) C.1 C.2.1 d_DE_init_24 (by decide) ?_
  refine yput C c_DE hT (k := 2) (v := .int 0) (by decide) wg_284 rfl rfl rfl hS (hA9 _ (by omega)) d_DE_init_25 (fun H1 locs hT hz1 o1 hS => ?_)
  have h0 := h0.kept (o1 _ (by omega))
  have h1 := h1.kept (o1 _ (by omega))
  have h1_1 := h1_1.kept (o1 _ (by omega))
  have hz := hz1.trans hz
  refine lv_aload_n C.1 C.2.1 d_DE_init_28 rfl (lv_at hl 0 rfl) ?_
  refine lv_iconst (v := (-1)) C.1 C.2.1 d_DE_init_29 (by decide) ?_
  refine yput C c_DE hT (k := 3) (v := .int (-1)) (by decide) wg_286 rfl rfl rfl hS (hA9 _ (by omega)) d_DE_init_30 (fun H1 locs hT hz1 o1 hS => ?_)
  have h0 := h0.kept (o1 _ (by omega))
  have h1 := h1.kept (o1 _ (by omega))
  have h1_1 := h1_1.kept (o1 _ (by omega))
  have hz := hz1.trans hz
  refine lv_aload_n C.1 C.2.1 d_DE_init_33 rfl (lv_at hl 0 rfl) ?_
  refine lv_iconst (v := 1) C.1 C.2.1 d_DE_init_34 (by decide) ?_
  refine yput C c_DE hT (k := 4) (v := .int 1) (by decide) wg_288 rfl rfl rfl hS (hA9 _ (by omega)) d_DE_init_35 (fun H1 locs hT hz1 o1 hS => ?_)
  have h0 := h0.kept (o1 _ (by omega))
  have h1 := h1.kept (o1 _ (by omega))
  have h1_1 := h1_1.kept (o1 _ (by omega))
  have hz := hz1.trans hz
  refine lv_aload_n C.1 C.2.1 d_DE_init_38 rfl (lv_at hl 0 rfl) ?_
  refine lv_ldc (v := (-1000000)) C.1 C.2.1 C.2.2.1 (C.2.2.2.1 _ wg_171) d_DE_init_39 ?_
  refine yput C c_DE hT (k := 7) (v := .int (-1000000)) (by decide) wg_294 rfl rfl rfl hS (hA9 _ (by omega)) d_DE_init_41 (fun H1 locs hT hz1 o1 hS => ?_)
  have h0 := h0.kept (o1 _ (by omega))
  have h1 := h1.kept (o1 _ (by omega))
  have h1_1 := h1_1.kept (o1 _ (by omega))
  have hz := hz1.trans hz
  refine lv_aload_n C.1 C.2.1 d_DE_init_44 rfl (lv_at hl 0 rfl) ?_
  refine lv_ldc (v := (-1000000)) C.1 C.2.1 C.2.2.1 (C.2.2.2.1 _ wg_171) d_DE_init_45 ?_
  refine yput C c_DE hT (k := 8) (v := .int (-1000000)) (by decide) wg_296 rfl rfl rfl hS (hA9 _ (by omega)) d_DE_init_47 (fun H1 locs hT hz1 o1 hS => ?_)
  have h0 := h0.kept (o1 _ (by omega))
  have h1 := h1.kept (o1 _ (by omega))
  have h1_1 := h1_1.kept (o1 _ (by omega))
  have hz := hz1.trans hz
  refine lv_iconst (v := 0) C.1 C.2.1 d_DE_init_50 (by decide) ?_
  refine lv_istore_n C.1 C.2.1 d_DE_init_51 rfl hl (by decide) rfl (fun ls hl => ?_)
  refine w_DE_init_52 l D cA a z ha C hKA hml hA9 (fun H locs ls hl hz hT hs hr1 hR hF hS => ?_) 4 0 _ _ ls rfl (lv_sub hl [1, 0] rfl) hz hT h1 h1_1 (by rw [yfill_0]; exact h0) (fun c hc => absurd hc (Nat.not_lt_zero c)) hS
  exact yret C hlk hr hz ⟨hT, hR.full, hs, hr1, hF⟩ hS d_DE_init_76
set_option maxRecDepth 100000 in
set_option maxHeartbeats 4000000 in
theorem w_PO_init_15 (l : Launch) (D : va_G) (cA : Nat → ClassId) (a z : Nat) (ha : a < z) {p : Program} {e : Env} {s : State} {m : MethodId} {below : List Frame} {meth : Method} {c : Code} {Q : State → Prop} (C : xCx p s m #[.ref a] c b_PO_init y_PO_init.cls D cA) (hKA : KA s) (hml : c.maxLocals = 2) (hA9 : ∀ q, (q = a ∨ z ≤ q) → xAi a z q)
    (kx : ∀ (H : Heap) (locs : List Loc) (ls : Array Slot), lv_has ls 2 [(0, .ref a), (1, .int (nI 65))] → H.size = z + 66 → (xob D 7 a (vPO z) H) → xar cA 6 65 (z) (yfill (fun c => z + 1 + c) 65) H → (∀ c, c < 65 → xob D 5 (z + 1 + c) v0i H) → va_S (xAi a z) s.heap H locs → W p l e { frames := 2, cells := 66, slots := 585, locals := 32 } s m #[.ref a] below meth c H locs 66 585 Q (F0 m 40 ls [])) :
    ∀ (n i : Nat) (H : Heap) (locs : List Loc) (ls : Array Slot), i + n = 65 → lv_has ls 2 [(0, .ref a), (1, .int (nI i))] → H.size = z + 1 + i → (xob D 7 a (vPO z) H) → xar cA 6 65 (z) (yfill (fun c => z + 1 + c) i) H → (∀ c, c < i → xob D 5 (z + 1 + c) v0i H) → va_S (xAi a z) s.heap H locs → W p l e { frames := 2, cells := 66, slots := 585, locals := 32 } s m #[.ref a] below meth c H locs (1 + 1 * i) (65 + 8 * i) Q (F0 m 15 ls []) := by
  intro n
  induction n with
  | zero =>
    intro i H locs ls hi hl hz hT hR hF hS
    obtain rfl : i = 65 := by omega
    refine lv_iload_n C.1 C.2.1 d_PO_init_15 rfl (lv_at hl 1 rfl) ?_
    refine lv_bipush (v := 64) C.1 C.2.1 d_PO_init_16 (by decide) ?_
    refine lv_icmp_gt (tgt := 40) C.1 C.2.1 d_PO_init_18 (by decide) (fun hg9 => ?_) (fun hg9 => ?_)
    · exact kx H locs ls hl hz hT hR hF hS
    · exact absurd (by decide) hg9
  | succ n ih =>
    intro i H locs ls hi hl hz hT hR hF hS
    have hiN : i < 65 := by omega
    refine lv_iload_n C.1 C.2.1 d_PO_init_15 rfl (lv_at hl 1 rfl) ?_
    refine lv_bipush (v := 64) C.1 C.2.1 d_PO_init_16 (by decide) ?_
    refine lv_icmp_gt (tgt := 40) C.1 C.2.1 d_PO_init_18 (by decide) (fun hg9 => ?_) (fun hg9 => ?_)
    · exact absurd hg9 (nI_nlt (show i ≤ 64 by omega) (by decide))
    · refine lv_aload_n C.1 C.2.1 d_PO_init_21 rfl (lv_at hl 0 rfl) ?_
      refine yget C c_PO hT (k := 0) (v := .ref (z)) (by decide) wg_95 rfl d_PO_init_22 ?_
      refine lv_iload_n C.1 C.2.1 d_PO_init_25 rfl (lv_at hl 1 rfl) ?_
      refine ynew C c_ME (V := v0i) wg_41 wg_43 wg_3 hz v_ME (by show (1 + 1 * i) + 1 ≤ 66; omega) (by show (65 + 8 * i) + 8 ≤ 585; omega) hS d_PO_init_26 (fun H1 hN hz1 o1 hS => ?_)
      have hT := hT.kept (o1 _ (by omega))
      have hR := hR.kept (o1 _ (by omega))
      have hF := fun c hc => (hF c hc).kept (o1 _ (by omega))
      have hz := hz1
      refine lv_dup C.1 C.2.1 d_PO_init_29 rfl ?_
      refine ycallN (rest := [.ref (z + 1 + i), .int (nI i), .ref (z)]) C hKA hml hl.1 (k_ME_init l D cA (z + 1 + i) (z + 1 + i + 1) (by omega)) q_ME_init rfl rfl wn_44 wg_45 rfl ⟨Nat.le_of_ble_eq_true rfl, Nat.le_of_ble_eq_true rfl⟩ (by show (1 + 1 * i) + 1 + 0 ≤ 66; omega) (by show (65 + 8 * i) + 8 + 0 ≤ 585; omega) hz hN hS (fun q hq => by rcases hq with hq | hq <;> exact hA9 _ (by omega)) (Nat.le_of_ble_eq_true rfl) d_PO_init_30 (fun H1 locs hN hz1 o1 hS => ?_)
      have hT := hT.kept (o1 _ (by omega) (by omega))
      have hR := hR.kept (o1 _ (by omega) (by omega))
      have hF := fun c hc => (hF c hc).kept (o1 _ (by omega) (by omega))
      have hz := hz1
      refine yaast C c_ME hN (t := 6) rfl hR (vp_in_nI hiN (by decide)) hS (hA9 _ (by omega)) d_PO_init_33 (fun H1 locs hR hz1 o1 hS => ?_)
      have hT := hT.kept (o1 _ (by omega))
      have hF := fun c hc => (hF c hc).kept (o1 _ (by omega))
      have hN := hN.kept (o1 _ (by omega))
      have hz := hz1.trans hz
      rw [nI_n (by omega), yfill_s (g := (fun c => z + 1 + c))] at hR
      refine lv_iinc (v := nI (i + 1)) C.1 C.2.1 d_PO_init_34 hl (k := 1) rfl (nI_1 i) (by decide) rfl (fun ls hl => ?_)
      refine lv_goto (tgt := 15) C.1 C.2.1 d_PO_init_37 (by decide) ?_
      refine W.cs (cells' := (1 + 1 * (i + 1))) (slots' := (65 + 8 * (i + 1))) (by omega) (by omega) ?_
      refine ih (i + 1) _ _ ls (by omega) (lv_sub hl [1, 0] rfl) (by omega) hT hR (fun c hc => ?_) hS
      by_cases e9 : c < i
      · exact hF c e9
      · obtain rfl : c = i := by omega
        exact hN
set_option maxRecDepth 100000 in
set_option maxHeartbeats 4000000 in
theorem k_PO_init (l : Launch) (D : va_G) (cA : Nat → ClassId) (a z : Nat) (ha : a < z) : xIc D cA l y_PO_init (Cond.code y_PO_init b_PO_init 2 none) { frames := 2, cells := 66, slots := 585, locals := 32 } a z 7 (v0n 1) 66 585 (bPO D cA a z) := by
  refine xIc_of (nL := 2) rfl (by decide) (by decide) rfl ?_
  intro p e s m below meth c ls C hKA hin hlk hr hml hl hz hT hS
  have hA9 : ∀ q, (q = a ∨ z ≤ q) → xAi a z q := fun q h => h
  refine lv_aload_n C.1 C.2.1 d_PO_init_0 rfl (lv_at hl 0 rfl) ?_
  refine yobj C hml hl.1 wg_40 wg_27 wg_28 (Nat.le_of_ble_eq_true rfl) (Nat.le_of_ble_eq_true rfl) d_PO_init_1 ?_
  refine lv_aload_n C.1 C.2.1 d_PO_init_4 rfl (lv_at hl 0 rfl) ?_
  refine lv_bipush (v := 65) C.1 C.2.1 d_PO_init_5 (by decide) ?_
  refine yanew (N := 65) C (t := 6) (E := R_ME) rfl wg_41 hKA.2.2.2.1 hz (by decide) (by decide) (by decide) (Nat.le_of_ble_eq_true rfl) (Nat.le_of_ble_eq_true rfl) hS d_PO_init_7 (fun H1 h0 hz1 o1 hS => ?_)
  have hT := hT.kept (o1 _ (by omega))
  have hz := hz1
  refine yputF C hin c_PO hT (k := 0) (v := .ref z) (by decide) wg_95 rfl rfl rfl rfl hS (hA9 _ (by omega)) d_PO_init_10 (fun H1 locs hT hz1 o1 hS => ?_)
  have h0 := h0.kept (o1 _ (by omega))
  have hz := hz1.trans hz
  refine lv_iconst (v := 0) C.1 C.2.1 d_PO_init_13 (by decide) ?_
  refine lv_istore_n C.1 C.2.1 d_PO_init_14 rfl hl (by decide) rfl (fun ls hl => ?_)
  refine w_PO_init_15 l D cA a z ha C hKA hml hA9 (fun H locs ls hl hz hT hR hF hS => ?_) 65 0 _ _ ls rfl (lv_sub hl [1, 0] rfl) hz hT (by rw [yfill_0]; exact h0) (fun c hc => absurd hc (Nat.not_lt_zero c)) hS
  exact yret C hlk hr hz ⟨hT, hR.full, hF⟩ hS d_PO_init_40
set_option maxRecDepth 100000 in
set_option maxHeartbeats 4000000 in
theorem w_BN_init_62 (l : Launch) (D : va_G) (cA : Nat → ClassId) (a z : Nat) (ha : a < z) {p : Program} {e : Env} {s : State} {m : MethodId} {below : List Frame} {meth : Method} {c : Code} {Q : State → Prop} (C : xCx p s m #[.ref a] c b_BN_init y_BN_init.cls D cA) (hKA : KA s) (hml : c.maxLocals = 2) (hA9 : ∀ q, (q = a ∨ z ≤ q) → xAi a z q)
    (kx : ∀ (H : Heap) (locs : List Loc) (ls : Array Slot), lv_has ls 2 [(0, .ref a), (1, .int (nI 8))] → H.size = z + 232 → (xob D 10 a (vBN z) H) → (xar cA 0 4 (z + 1) (fun _ => .int 0) H) → (xar cA 4 16 (z + 2) (fun _ => .null) H) → (xar cA 5 100 (z + 3) (fun _ => .null) H) → (xob D 7 (z + 4) (vPO (z + 5)) H) → (xar cA 6 65 (z + 5) (fun k => .ref (z + 5 + 1 + k)) H) → (∀ k, k < 65 → xob D 5 (z + 5 + 1 + k) v0i H) → (xob D 5 (z + 71) v0i H) → xar cA 3 8 (z) (yfill (fun c => z + 72 + 20 * c) 8) H → (∀ c, c < 8 → bDE D cA (z + 72 + 20 * c) (z + 72 + 20 * c + 1) H) → va_S (xAi a z) s.heap H locs → W p l e { frames := 4, cells := 348, slots := 2329, locals := 73 } s m #[.ref a] below meth c H locs 232 1701 Q (F0 m 87 ls [])) :
    ∀ (n i : Nat) (H : Heap) (locs : List Loc) (ls : Array Slot), i + n = 8 → lv_has ls 2 [(0, .ref a), (1, .int (nI i))] → H.size = z + 72 + 20 * i → (xob D 10 a (vBN z) H) → (xar cA 0 4 (z + 1) (fun _ => .int 0) H) → (xar cA 4 16 (z + 2) (fun _ => .null) H) → (xar cA 5 100 (z + 3) (fun _ => .null) H) → (xob D 7 (z + 4) (vPO (z + 5)) H) → (xar cA 6 65 (z + 5) (fun k => .ref (z + 5 + 1 + k)) H) → (∀ k, k < 65 → xob D 5 (z + 5 + 1 + k) v0i H) → (xob D 5 (z + 71) v0i H) → xar cA 3 8 (z) (yfill (fun c => z + 72 + 20 * c) i) H → (∀ c, c < i → bDE D cA (z + 72 + 20 * c) (z + 72 + 20 * c + 1) H) → va_S (xAi a z) s.heap H locs → W p l e { frames := 4, cells := 348, slots := 2329, locals := 73 } s m #[.ref a] below meth c H locs (72 + 20 * i) (725 + 122 * i) Q (F0 m 62 ls []) := by
  intro n
  induction n with
  | zero =>
    intro i H locs ls hi hl hz hT h1 h2 h3 h4 h4_1 h4_2 h5 hR hF hS
    obtain rfl : i = 8 := by omega
    refine lv_iload_n C.1 C.2.1 d_BN_init_62 rfl (lv_at hl 1 rfl) ?_
    refine lv_bipush (v := 8) C.1 C.2.1 d_BN_init_63 (by decide) ?_
    refine lv_icmp_ge (tgt := 87) C.1 C.2.1 d_BN_init_65 (by decide) (fun hg9 => ?_) (fun hg9 => ?_)
    · exact kx H locs ls hl hz hT h1 h2 h3 h4 h4_1 h4_2 h5 hR hF hS
    · exact absurd (by decide) hg9
  | succ n ih =>
    intro i H locs ls hi hl hz hT h1 h2 h3 h4 h4_1 h4_2 h5 hR hF hS
    have hiN : i < 8 := by omega
    refine lv_iload_n C.1 C.2.1 d_BN_init_62 rfl (lv_at hl 1 rfl) ?_
    refine lv_bipush (v := 8) C.1 C.2.1 d_BN_init_63 (by decide) ?_
    refine lv_icmp_ge (tgt := 87) C.1 C.2.1 d_BN_init_65 (by decide) (fun hg9 => ?_) (fun hg9 => ?_)
    · exact absurd hg9 (nI_ge (show i < 8 by omega) (by decide))
    · refine lv_aload_n C.1 C.2.1 d_BN_init_68 rfl (lv_at hl 0 rfl) ?_
      refine yget C c_BN hT (k := 0) (v := .ref (z)) (by decide) wg_378 rfl d_BN_init_69 ?_
      refine lv_iload_n C.1 C.2.1 d_BN_init_72 rfl (lv_at hl 1 rfl) ?_
      refine ynew C c_DE (V := (v0n 2)) wg_29 wg_114 wg_4 hz v_DE (by show (72 + 20 * i) + 1 ≤ 348; omega) (by show (725 + 122 * i) + 9 ≤ 2329; omega) hS d_BN_init_73 (fun H1 hN hz1 o1 hS => ?_)
      have hT := hT.kept (o1 _ (by omega))
      have h1 := h1.kept (o1 _ (by omega))
      have h2 := h2.kept (o1 _ (by omega))
      have h3 := h3.kept (o1 _ (by omega))
      have h4 := h4.kept (o1 _ (by omega))
      have h4_1 := h4_1.kept (o1 _ (by omega))
      have h4_2 := fun c hc => (h4_2 c hc).kept (o1 _ (by omega))
      have h5 := h5.kept (o1 _ (by omega))
      have hR := hR.kept (o1 _ (by omega))
      have hF := fun c hc => (hF c hc).kept (fun q hq => o1 q (by omega))
      have hz := hz1
      refine lv_dup C.1 C.2.1 d_BN_init_76 rfl ?_
      refine ycallN (rest := [.ref (z + 72 + 20 * i), .int (nI i), .ref (z)]) C hKA hml hl.1 (k_DE_init l D cA (z + 72 + 20 * i) (z + 72 + 20 * i + 1) (by omega)) q_DE_init rfl rfl wn_115 wg_116 rfl ⟨Nat.le_of_ble_eq_true rfl, Nat.le_of_ble_eq_true rfl⟩ (by show (72 + 20 * i) + 1 + 19 ≤ 348; omega) (by show (725 + 122 * i) + 9 + 113 ≤ 2329; omega) hz hN hS (fun q hq => by rcases hq with hq | hq <;> exact hA9 _ (by omega)) (Nat.le_of_ble_eq_true rfl) d_BN_init_77 (fun H1 locs hN hz1 o1 hS => ?_)
      have hT := hT.kept (o1 _ (by omega) (by omega))
      have h1 := h1.kept (o1 _ (by omega) (by omega))
      have h2 := h2.kept (o1 _ (by omega) (by omega))
      have h3 := h3.kept (o1 _ (by omega) (by omega))
      have h4 := h4.kept (o1 _ (by omega) (by omega))
      have h4_1 := h4_1.kept (o1 _ (by omega) (by omega))
      have h4_2 := fun c hc => (h4_2 c hc).kept (o1 _ (by omega) (by omega))
      have h5 := h5.kept (o1 _ (by omega) (by omega))
      have hR := hR.kept (o1 _ (by omega) (by omega))
      have hF := fun c hc => (hF c hc).kept (fun q hq => o1 q (by omega) (by omega))
      have hz := hz1
      refine yaast C c_DE hN.1 (t := 3) rfl hR (vp_in_nI hiN (by decide)) hS (hA9 _ (by omega)) d_BN_init_80 (fun H1 locs hR hz1 o1 hS => ?_)
      have hT := hT.kept (o1 _ (by omega))
      have h1 := h1.kept (o1 _ (by omega))
      have h2 := h2.kept (o1 _ (by omega))
      have h3 := h3.kept (o1 _ (by omega))
      have h4 := h4.kept (o1 _ (by omega))
      have h4_1 := h4_1.kept (o1 _ (by omega))
      have h4_2 := fun c hc => (h4_2 c hc).kept (o1 _ (by omega))
      have h5 := h5.kept (o1 _ (by omega))
      have hF := fun c hc => (hF c hc).kept (fun q hq => o1 q (by omega))
      have hN := hN.kept (fun q hq => o1 q (by omega))
      have hz := hz1.trans hz
      rw [nI_n (by omega), yfill_s (g := (fun c => z + 72 + 20 * c))] at hR
      refine lv_iinc (v := nI (i + 1)) C.1 C.2.1 d_BN_init_81 hl (k := 1) rfl (nI_1 i) (by decide) rfl (fun ls hl => ?_)
      refine lv_goto (tgt := 62) C.1 C.2.1 d_BN_init_84 (by decide) ?_
      refine W.cs (cells' := (72 + 20 * (i + 1))) (slots' := (725 + 122 * (i + 1))) (by omega) (by omega) ?_
      refine ih (i + 1) _ _ ls (by omega) (lv_sub hl [1, 0] rfl) (by omega) hT h1 h2 h3 h4 h4_1 h4_2 h5 hR (fun c hc => ?_) hS
      by_cases e9 : c < i
      · exact hF c e9
      · obtain rfl : c = i := by omega
        exact hN
set_option maxRecDepth 100000 in
set_option maxHeartbeats 4000000 in
theorem w_BN_init_89 (l : Launch) (D : va_G) (cA : Nat → ClassId) (a z : Nat) (ha : a < z) {p : Program} {e : Env} {s : State} {m : MethodId} {below : List Frame} {meth : Method} {c : Code} {Q : State → Prop} (C : xCx p s m #[.ref a] c b_BN_init y_BN_init.cls D cA) (hKA : KA s) (hml : c.maxLocals = 2) (hA9 : ∀ q, (q = a ∨ z ≤ q) → xAi a z q)
    (kx : ∀ (H : Heap) (locs : List Loc) (ls : Array Slot), lv_has ls 2 [(0, .ref a), (1, .int (nI 16))] → H.size = z + 248 → (xob D 10 a (vBN z) H) → (xar cA 0 4 (z + 1) (fun _ => .int 0) H) → (xar cA 5 100 (z + 3) (fun _ => .null) H) → (xob D 7 (z + 4) (vPO (z + 5)) H) → (xar cA 6 65 (z + 5) (fun k => .ref (z + 5 + 1 + k)) H) → (∀ k, k < 65 → xob D 5 (z + 5 + 1 + k) v0i H) → (xob D 5 (z + 71) v0i H) → (xar cA 3 8 z (fun d => .ref (z + 72 + 20 * d)) H) → (∀ d, d < 8 → bDE D cA (z + 72 + 20 * d) (z + 72 + 20 * d + 1) H) → xar cA 4 16 (z + 2) (yfill (fun c => z + 232 + c) 16) H → (∀ c, c < 16 → xob D 3 (z + 232 + c) vDI H) → va_S (xAi a z) s.heap H locs → W p l e { frames := 4, cells := 348, slots := 2329, locals := 73 } s m #[.ref a] below meth c H locs 248 1829 Q (F0 m 114 ls [])) :
    ∀ (n i : Nat) (H : Heap) (locs : List Loc) (ls : Array Slot), i + n = 16 → lv_has ls 2 [(0, .ref a), (1, .int (nI i))] → H.size = z + 232 + i → (xob D 10 a (vBN z) H) → (xar cA 0 4 (z + 1) (fun _ => .int 0) H) → (xar cA 5 100 (z + 3) (fun _ => .null) H) → (xob D 7 (z + 4) (vPO (z + 5)) H) → (xar cA 6 65 (z + 5) (fun k => .ref (z + 5 + 1 + k)) H) → (∀ k, k < 65 → xob D 5 (z + 5 + 1 + k) v0i H) → (xob D 5 (z + 71) v0i H) → (xar cA 3 8 z (fun d => .ref (z + 72 + 20 * d)) H) → (∀ d, d < 8 → bDE D cA (z + 72 + 20 * d) (z + 72 + 20 * d + 1) H) → xar cA 4 16 (z + 2) (yfill (fun c => z + 232 + c) i) H → (∀ c, c < i → xob D 3 (z + 232 + c) vDI H) → va_S (xAi a z) s.heap H locs → W p l e { frames := 4, cells := 348, slots := 2329, locals := 73 } s m #[.ref a] below meth c H locs (232 + 1 * i) (1701 + 8 * i) Q (F0 m 89 ls []) := by
  intro n
  induction n with
  | zero =>
    intro i H locs ls hi hl hz hT h1 h3 h4 h4_1 h4_2 h5 h0 hD hR hF hS
    obtain rfl : i = 16 := by omega
    refine lv_iload_n C.1 C.2.1 d_BN_init_89 rfl (lv_at hl 1 rfl) ?_
    refine lv_bipush (v := 16) C.1 C.2.1 d_BN_init_90 (by decide) ?_
    refine lv_icmp_ge (tgt := 114) C.1 C.2.1 d_BN_init_92 (by decide) (fun hg9 => ?_) (fun hg9 => ?_)
    · exact kx H locs ls hl hz hT h1 h3 h4 h4_1 h4_2 h5 h0 hD hR hF hS
    · exact absurd (by decide) hg9
  | succ n ih =>
    intro i H locs ls hi hl hz hT h1 h3 h4 h4_1 h4_2 h5 h0 hD hR hF hS
    have hiN : i < 16 := by omega
    refine lv_iload_n C.1 C.2.1 d_BN_init_89 rfl (lv_at hl 1 rfl) ?_
    refine lv_bipush (v := 16) C.1 C.2.1 d_BN_init_90 (by decide) ?_
    refine lv_icmp_ge (tgt := 114) C.1 C.2.1 d_BN_init_92 (by decide) (fun hg9 => ?_) (fun hg9 => ?_)
    · exact absurd hg9 (nI_ge (show i < 16 by omega) (by decide))
    · refine lv_aload_n C.1 C.2.1 d_BN_init_95 rfl (lv_at hl 0 rfl) ?_
      refine yget C c_BN hT (k := 2) (v := .ref (z + 2)) (by decide) wg_380 rfl d_BN_init_96 ?_
      refine lv_iload_n C.1 C.2.1 d_BN_init_99 rfl (lv_at hl 1 rfl) ?_
      refine ynew C c_DI (V := v0i) wg_31 wg_317 wg_10 hz v_DI (by show (232 + 1 * i) + 1 ≤ 348; omega) (by show (1701 + 8 * i) + 8 ≤ 2329; omega) hS d_BN_init_100 (fun H1 hN hz1 o1 hS => ?_)
      have hT := hT.kept (o1 _ (by omega))
      have h1 := h1.kept (o1 _ (by omega))
      have h3 := h3.kept (o1 _ (by omega))
      have h4 := h4.kept (o1 _ (by omega))
      have h4_1 := h4_1.kept (o1 _ (by omega))
      have h4_2 := fun c hc => (h4_2 c hc).kept (o1 _ (by omega))
      have h5 := h5.kept (o1 _ (by omega))
      have h0 := h0.kept (o1 _ (by omega))
      have hD := fun c hc => (hD c hc).kept (fun q hq => o1 q (by omega))
      have hR := hR.kept (o1 _ (by omega))
      have hF := fun c hc => (hF c hc).kept (o1 _ (by omega))
      have hz := hz1
      refine lv_dup C.1 C.2.1 d_BN_init_103 rfl ?_
      refine ycallN (rest := [.ref (z + 232 + i), .int (nI i), .ref (z + 2)]) C hKA hml hl.1 (k_DI_init l D cA (z + 232 + i) (z + 232 + i + 1) (by omega)) q_DI_init rfl rfl wn_318 wg_319 rfl ⟨Nat.le_of_ble_eq_true rfl, Nat.le_of_ble_eq_true rfl⟩ (by show (232 + 1 * i) + 1 + 0 ≤ 348; omega) (by show (1701 + 8 * i) + 8 + 0 ≤ 2329; omega) hz hN hS (fun q hq => by rcases hq with hq | hq <;> exact hA9 _ (by omega)) (Nat.le_of_ble_eq_true rfl) d_BN_init_104 (fun H1 locs hN hz1 o1 hS => ?_)
      have hT := hT.kept (o1 _ (by omega) (by omega))
      have h1 := h1.kept (o1 _ (by omega) (by omega))
      have h3 := h3.kept (o1 _ (by omega) (by omega))
      have h4 := h4.kept (o1 _ (by omega) (by omega))
      have h4_1 := h4_1.kept (o1 _ (by omega) (by omega))
      have h4_2 := fun c hc => (h4_2 c hc).kept (o1 _ (by omega) (by omega))
      have h5 := h5.kept (o1 _ (by omega) (by omega))
      have h0 := h0.kept (o1 _ (by omega) (by omega))
      have hD := fun c hc => (hD c hc).kept (fun q hq => o1 q (by omega) (by omega))
      have hR := hR.kept (o1 _ (by omega) (by omega))
      have hF := fun c hc => (hF c hc).kept (o1 _ (by omega) (by omega))
      have hz := hz1
      refine yaast C c_DI hN (t := 4) rfl hR (vp_in_nI hiN (by decide)) hS (hA9 _ (by omega)) d_BN_init_107 (fun H1 locs hR hz1 o1 hS => ?_)
      have hT := hT.kept (o1 _ (by omega))
      have h1 := h1.kept (o1 _ (by omega))
      have h3 := h3.kept (o1 _ (by omega))
      have h4 := h4.kept (o1 _ (by omega))
      have h4_1 := h4_1.kept (o1 _ (by omega))
      have h4_2 := fun c hc => (h4_2 c hc).kept (o1 _ (by omega))
      have h5 := h5.kept (o1 _ (by omega))
      have h0 := h0.kept (o1 _ (by omega))
      have hD := fun c hc => (hD c hc).kept (fun q hq => o1 q (by omega))
      have hF := fun c hc => (hF c hc).kept (o1 _ (by omega))
      have hN := hN.kept (o1 _ (by omega))
      have hz := hz1.trans hz
      rw [nI_n (by omega), yfill_s (g := (fun c => z + 232 + c))] at hR
      refine lv_iinc (v := nI (i + 1)) C.1 C.2.1 d_BN_init_108 hl (k := 1) rfl (nI_1 i) (by decide) rfl (fun ls hl => ?_)
      refine lv_goto (tgt := 89) C.1 C.2.1 d_BN_init_111 (by decide) ?_
      refine W.cs (cells' := (232 + 1 * (i + 1))) (slots' := (1701 + 8 * (i + 1))) (by omega) (by omega) ?_
      refine ih (i + 1) _ _ ls (by omega) (lv_sub hl [1, 0] rfl) (by omega) hT h1 h3 h4 h4_1 h4_2 h5 h0 hD hR (fun c hc => ?_) hS
      by_cases e9 : c < i
      · exact hF c e9
      · obtain rfl : c = i := by omega
        exact hN
set_option maxRecDepth 100000 in
set_option maxHeartbeats 4000000 in
theorem w_BN_init_116 (l : Launch) (D : va_G) (cA : Nat → ClassId) (a z : Nat) (ha : a < z) {p : Program} {e : Env} {s : State} {m : MethodId} {below : List Frame} {meth : Method} {c : Code} {Q : State → Prop} (C : xCx p s m #[.ref a] c b_BN_init y_BN_init.cls D cA) (hKA : KA s) (hml : c.maxLocals = 2) (hA9 : ∀ q, (q = a ∨ z ≤ q) → xAi a z q)
    (kx : ∀ (H : Heap) (locs : List Loc) (ls : Array Slot), lv_has ls 2 [(0, .ref a), (1, .int (nI 100))] → H.size = z + 348 → (xob D 10 a (vBN z) H) → (xar cA 0 4 (z + 1) (fun _ => .int 0) H) → (xob D 7 (z + 4) (vPO (z + 5)) H) → (xar cA 6 65 (z + 5) (fun k => .ref (z + 5 + 1 + k)) H) → (∀ k, k < 65 → xob D 5 (z + 5 + 1 + k) v0i H) → (xob D 5 (z + 71) v0i H) → (xar cA 3 8 z (fun d => .ref (z + 72 + 20 * d)) H) → (∀ d, d < 8 → bDE D cA (z + 72 + 20 * d) (z + 72 + 20 * d + 1) H) → (xar cA 4 16 (z + 2) (fun k => .ref (z + 232 + k)) H) → (∀ k, k < 16 → xob D 3 (z + 232 + k) vDI H) → xar cA 5 100 (z + 3) (yfill (fun c => z + 248 + c) 100) H → (∀ c, c < 100 → xob D 6 (z + 248 + c) vOR H) → va_S (xAi a z) s.heap H locs → W p l e { frames := 4, cells := 348, slots := 2329, locals := 73 } s m #[.ref a] below meth c H locs 348 2329 Q (F0 m 141 ls [])) :
    ∀ (n i : Nat) (H : Heap) (locs : List Loc) (ls : Array Slot), i + n = 100 → lv_has ls 2 [(0, .ref a), (1, .int (nI i))] → H.size = z + 248 + i → (xob D 10 a (vBN z) H) → (xar cA 0 4 (z + 1) (fun _ => .int 0) H) → (xob D 7 (z + 4) (vPO (z + 5)) H) → (xar cA 6 65 (z + 5) (fun k => .ref (z + 5 + 1 + k)) H) → (∀ k, k < 65 → xob D 5 (z + 5 + 1 + k) v0i H) → (xob D 5 (z + 71) v0i H) → (xar cA 3 8 z (fun d => .ref (z + 72 + 20 * d)) H) → (∀ d, d < 8 → bDE D cA (z + 72 + 20 * d) (z + 72 + 20 * d + 1) H) → (xar cA 4 16 (z + 2) (fun k => .ref (z + 232 + k)) H) → (∀ k, k < 16 → xob D 3 (z + 232 + k) vDI H) → xar cA 5 100 (z + 3) (yfill (fun c => z + 248 + c) i) H → (∀ c, c < i → xob D 6 (z + 248 + c) vOR H) → va_S (xAi a z) s.heap H locs → W p l e { frames := 4, cells := 348, slots := 2329, locals := 73 } s m #[.ref a] below meth c H locs (248 + 1 * i) (1829 + 5 * i) Q (F0 m 116 ls []) := by
  intro n
  induction n with
  | zero =>
    intro i H locs ls hi hl hz hT h1 h4 h4_1 h4_2 h5 h0 hD h2 hI hR hF hS
    obtain rfl : i = 100 := by omega
    refine lv_iload_n C.1 C.2.1 d_BN_init_116 rfl (lv_at hl 1 rfl) ?_
    refine lv_bipush (v := 100) C.1 C.2.1 d_BN_init_117 (by decide) ?_
    refine lv_icmp_ge (tgt := 141) C.1 C.2.1 d_BN_init_119 (by decide) (fun hg9 => ?_) (fun hg9 => ?_)
    · exact kx H locs ls hl hz hT h1 h4 h4_1 h4_2 h5 h0 hD h2 hI hR hF hS
    · exact absurd (by decide) hg9
  | succ n ih =>
    intro i H locs ls hi hl hz hT h1 h4 h4_1 h4_2 h5 h0 hD h2 hI hR hF hS
    have hiN : i < 100 := by omega
    refine lv_iload_n C.1 C.2.1 d_BN_init_116 rfl (lv_at hl 1 rfl) ?_
    refine lv_bipush (v := 100) C.1 C.2.1 d_BN_init_117 (by decide) ?_
    refine lv_icmp_ge (tgt := 141) C.1 C.2.1 d_BN_init_119 (by decide) (fun hg9 => ?_) (fun hg9 => ?_)
    · exact absurd hg9 (nI_ge (show i < 100 by omega) (by decide))
    · refine lv_aload_n C.1 C.2.1 d_BN_init_122 rfl (lv_at hl 0 rfl) ?_
      refine yget C c_BN hT (k := 3) (v := .ref (z + 3)) (by decide) wg_381 rfl d_BN_init_123 ?_
      refine lv_iload_n C.1 C.2.1 d_BN_init_126 rfl (lv_at hl 1 rfl) ?_
      refine ynew C c_OR (V := v0i) wg_33 wg_353 wg_11 hz v_OR (by show (248 + 1 * i) + 1 ≤ 348; omega) (by show (1829 + 5 * i) + 5 ≤ 2329; omega) hS d_BN_init_127 (fun H1 hN hz1 o1 hS => ?_)
      have hT := hT.kept (o1 _ (by omega))
      have h1 := h1.kept (o1 _ (by omega))
      have h4 := h4.kept (o1 _ (by omega))
      have h4_1 := h4_1.kept (o1 _ (by omega))
      have h4_2 := fun c hc => (h4_2 c hc).kept (o1 _ (by omega))
      have h5 := h5.kept (o1 _ (by omega))
      have h0 := h0.kept (o1 _ (by omega))
      have hD := fun c hc => (hD c hc).kept (fun q hq => o1 q (by omega))
      have h2 := h2.kept (o1 _ (by omega))
      have hI := fun c hc => (hI c hc).kept (o1 _ (by omega))
      have hR := hR.kept (o1 _ (by omega))
      have hF := fun c hc => (hF c hc).kept (o1 _ (by omega))
      have hz := hz1
      refine lv_dup C.1 C.2.1 d_BN_init_130 rfl ?_
      refine ycallN (rest := [.ref (z + 248 + i), .int (nI i), .ref (z + 3)]) C hKA hml hl.1 (k_OR_init l D cA (z + 248 + i) (z + 248 + i + 1) (by omega)) q_OR_init rfl rfl wn_354 wg_355 rfl ⟨Nat.le_of_ble_eq_true rfl, Nat.le_of_ble_eq_true rfl⟩ (by show (248 + 1 * i) + 1 + 0 ≤ 348; omega) (by show (1829 + 5 * i) + 5 + 0 ≤ 2329; omega) hz hN hS (fun q hq => by rcases hq with hq | hq <;> exact hA9 _ (by omega)) (Nat.le_of_ble_eq_true rfl) d_BN_init_131 (fun H1 locs hN hz1 o1 hS => ?_)
      have hT := hT.kept (o1 _ (by omega) (by omega))
      have h1 := h1.kept (o1 _ (by omega) (by omega))
      have h4 := h4.kept (o1 _ (by omega) (by omega))
      have h4_1 := h4_1.kept (o1 _ (by omega) (by omega))
      have h4_2 := fun c hc => (h4_2 c hc).kept (o1 _ (by omega) (by omega))
      have h5 := h5.kept (o1 _ (by omega) (by omega))
      have h0 := h0.kept (o1 _ (by omega) (by omega))
      have hD := fun c hc => (hD c hc).kept (fun q hq => o1 q (by omega) (by omega))
      have h2 := h2.kept (o1 _ (by omega) (by omega))
      have hI := fun c hc => (hI c hc).kept (o1 _ (by omega) (by omega))
      have hR := hR.kept (o1 _ (by omega) (by omega))
      have hF := fun c hc => (hF c hc).kept (o1 _ (by omega) (by omega))
      have hz := hz1
      refine yaast C c_OR hN (t := 5) rfl hR (vp_in_nI hiN (by decide)) hS (hA9 _ (by omega)) d_BN_init_134 (fun H1 locs hR hz1 o1 hS => ?_)
      have hT := hT.kept (o1 _ (by omega))
      have h1 := h1.kept (o1 _ (by omega))
      have h4 := h4.kept (o1 _ (by omega))
      have h4_1 := h4_1.kept (o1 _ (by omega))
      have h4_2 := fun c hc => (h4_2 c hc).kept (o1 _ (by omega))
      have h5 := h5.kept (o1 _ (by omega))
      have h0 := h0.kept (o1 _ (by omega))
      have hD := fun c hc => (hD c hc).kept (fun q hq => o1 q (by omega))
      have h2 := h2.kept (o1 _ (by omega))
      have hI := fun c hc => (hI c hc).kept (o1 _ (by omega))
      have hF := fun c hc => (hF c hc).kept (o1 _ (by omega))
      have hN := hN.kept (o1 _ (by omega))
      have hz := hz1.trans hz
      rw [nI_n (by omega), yfill_s (g := (fun c => z + 248 + c))] at hR
      refine lv_iinc (v := nI (i + 1)) C.1 C.2.1 d_BN_init_135 hl (k := 1) rfl (nI_1 i) (by decide) rfl (fun ls hl => ?_)
      refine lv_goto (tgt := 116) C.1 C.2.1 d_BN_init_138 (by decide) ?_
      refine W.cs (cells' := (248 + 1 * (i + 1))) (slots' := (1829 + 5 * (i + 1))) (by omega) (by omega) ?_
      refine ih (i + 1) _ _ ls (by omega) (lv_sub hl [1, 0] rfl) (by omega) hT h1 h4 h4_1 h4_2 h5 h0 hD h2 hI hR (fun c hc => ?_) hS
      by_cases e9 : c < i
      · exact hF c e9
      · obtain rfl : c = i := by omega
        exact hN
set_option maxRecDepth 100000 in
set_option maxHeartbeats 4000000 in
theorem k_BN_init (l : Launch) (D : va_G) (cA : Nat → ClassId) (a z : Nat) (ha : a < z) : xIc D cA l y_BN_init (Cond.code y_BN_init b_BN_init 2 none) { frames := 4, cells := 348, slots := 2329, locals := 73 } a z 10 (v0n 6) 348 2329 (bBN D cA a z) := by
  refine xIc_of (nL := 2) rfl (by decide) (by decide) rfl ?_
  intro p e s m below meth c ls C hKA hin hlk hr hml hl hz hT hS
  have hA9 : ∀ q, (q = a ∨ z ≤ q) → xAi a z q := fun q h => h
  refine lv_aload_n C.1 C.2.1 d_BN_init_0 rfl (lv_at hl 0 rfl) ?_
  refine yobj C hml hl.1 wg_26 wg_27 wg_28 (Nat.le_of_ble_eq_true rfl) (Nat.le_of_ble_eq_true rfl) d_BN_init_1 ?_
  refine lv_aload_n C.1 C.2.1 d_BN_init_4 rfl (lv_at hl 0 rfl) ?_
  refine lv_bipush (v := 8) C.1 C.2.1 d_BN_init_5 (by decide) ?_
  refine yanew (N := 8) C (t := 3) (E := R_DE) rfl wg_29 hKA.1 hz (by decide) (by decide) (by decide) (Nat.le_of_ble_eq_true rfl) (Nat.le_of_ble_eq_true rfl) hS d_BN_init_7 (fun H1 h0 hz1 o1 hS => ?_)
  have hT := hT.kept (o1 _ (by omega))
  have hz := hz1
  refine yputF C hin c_BN hT (k := 0) (v := .ref z) (by decide) wg_378 rfl rfl rfl rfl hS (hA9 _ (by omega)) d_BN_init_10 (fun H1 locs hT hz1 o1 hS => ?_)
  have h0 := h0.kept (o1 _ (by omega))
  have hz := hz1.trans hz
  refine lv_aload_n C.1 C.2.1 d_BN_init_13 rfl (lv_at hl 0 rfl) ?_
  refine lv_iconst (v := 4) C.1 C.2.1 d_BN_init_14 (by decide) ?_
  refine ynewa (N := 4) (atype := .int) (ty := .int) C (t := 0) wg_94 rfl (fun _ z => by cases z) rfl hz (by decide) (by decide) (by decide) (Nat.le_of_ble_eq_true rfl) (Nat.le_of_ble_eq_true rfl) hS d_BN_init_15 (fun H1 h1 hz1 o1 hS => ?_)
  have hT := hT.kept (o1 _ (by omega))
  have h0 := h0.kept (o1 _ (by omega))
  have hz := hz1
  refine yputF C hin c_BN hT (k := 1) (v := .ref (z + 1)) (by decide) wg_379 rfl rfl rfl rfl hS (hA9 _ (by omega)) d_BN_init_17 (fun H1 locs hT hz1 o1 hS => ?_)
  have h0 := h0.kept (o1 _ (by omega))
  have h1 := h1.kept (o1 _ (by omega))
  have hz := hz1.trans hz
  refine lv_aload_n C.1 C.2.1 d_BN_init_20 rfl (lv_at hl 0 rfl) ?_
  refine lv_bipush (v := 16) C.1 C.2.1 d_BN_init_21 (by decide) ?_
  refine yanew (N := 16) C (t := 4) (E := R_DI) rfl wg_31 hKA.2.1 hz (by decide) (by decide) (by decide) (Nat.le_of_ble_eq_true rfl) (Nat.le_of_ble_eq_true rfl) hS d_BN_init_23 (fun H1 h2 hz1 o1 hS => ?_)
  have hT := hT.kept (o1 _ (by omega))
  have h0 := h0.kept (o1 _ (by omega))
  have h1 := h1.kept (o1 _ (by omega))
  have hz := hz1
  refine yputF C hin c_BN hT (k := 2) (v := .ref (z + 2)) (by decide) wg_380 rfl rfl rfl rfl hS (hA9 _ (by omega)) d_BN_init_26 (fun H1 locs hT hz1 o1 hS => ?_)
  have h0 := h0.kept (o1 _ (by omega))
  have h1 := h1.kept (o1 _ (by omega))
  have h2 := h2.kept (o1 _ (by omega))
  have hz := hz1.trans hz
  refine lv_aload_n C.1 C.2.1 d_BN_init_29 rfl (lv_at hl 0 rfl) ?_
  refine lv_bipush (v := 100) C.1 C.2.1 d_BN_init_30 (by decide) ?_
  refine yanew (N := 100) C (t := 5) (E := R_OR) rfl wg_33 hKA.2.2.1 hz (by decide) (by decide) (by decide) (Nat.le_of_ble_eq_true rfl) (Nat.le_of_ble_eq_true rfl) hS d_BN_init_32 (fun H1 h3 hz1 o1 hS => ?_)
  have hT := hT.kept (o1 _ (by omega))
  have h0 := h0.kept (o1 _ (by omega))
  have h1 := h1.kept (o1 _ (by omega))
  have h2 := h2.kept (o1 _ (by omega))
  have hz := hz1
  refine yputF C hin c_BN hT (k := 3) (v := .ref (z + 3)) (by decide) wg_381 rfl rfl rfl rfl hS (hA9 _ (by omega)) d_BN_init_35 (fun H1 locs hT hz1 o1 hS => ?_)
  have h0 := h0.kept (o1 _ (by omega))
  have h1 := h1.kept (o1 _ (by omega))
  have h2 := h2.kept (o1 _ (by omega))
  have h3 := h3.kept (o1 _ (by omega))
  have hz := hz1.trans hz
  refine lv_aload_n C.1 C.2.1 d_BN_init_38 rfl (lv_at hl 0 rfl) ?_
  refine ynew C c_PO (V := (v0n 1)) wg_35 wg_36 wg_2 hz v_PO (Nat.le_of_ble_eq_true rfl) (Nat.le_of_ble_eq_true rfl) hS d_BN_init_39 (fun H1 h4 hz1 o1 hS => ?_)
  have hT := hT.kept (o1 _ (by omega))
  have h0 := h0.kept (o1 _ (by omega))
  have h1 := h1.kept (o1 _ (by omega))
  have h2 := h2.kept (o1 _ (by omega))
  have h3 := h3.kept (o1 _ (by omega))
  have hz := hz1
  refine lv_dup C.1 C.2.1 d_BN_init_42 rfl ?_
  refine ycallN (rest := [.ref (z + 4), .ref a]) C hKA hml hl.1 (k_PO_init l D cA (z + 4) (z + 5) (by omega)) q_PO_init rfl rfl wn_37 wg_38 rfl ⟨Nat.le_of_ble_eq_true rfl, Nat.le_of_ble_eq_true rfl⟩ (Nat.le_of_ble_eq_true rfl) (Nat.le_of_ble_eq_true rfl) hz h4 hS (fun q hq => by rcases hq with hq | hq <;> exact hA9 _ (by omega)) (Nat.le_of_ble_eq_true rfl) d_BN_init_43 (fun H1 locs h4 hz1 o1 hS => ?_)
  have hT := hT.kept (o1 _ (by omega) (by omega))
  have h0 := h0.kept (o1 _ (by omega) (by omega))
  have h1 := h1.kept (o1 _ (by omega) (by omega))
  have h2 := h2.kept (o1 _ (by omega) (by omega))
  have h3 := h3.kept (o1 _ (by omega) (by omega))
  have hz := hz1
  obtain ⟨h4, h4_1, h4_2⟩ := h4
  refine yputF C hin c_BN hT (k := 4) (v := .ref (z + 4)) (by decide) wg_382 rfl rfl rfl rfl hS (hA9 _ (by omega)) d_BN_init_46 (fun H1 locs hT hz1 o1 hS => ?_)
  have h0 := h0.kept (o1 _ (by omega))
  have h1 := h1.kept (o1 _ (by omega))
  have h2 := h2.kept (o1 _ (by omega))
  have h3 := h3.kept (o1 _ (by omega))
  have h4 := h4.kept (o1 _ (by omega))
  have h4_1 := h4_1.kept (o1 _ (by omega))
  have h4_2 := fun c hc => (h4_2 c hc).kept (o1 _ (by omega))
  have hz := hz1.trans hz
  refine lv_aload_n C.1 C.2.1 d_BN_init_49 rfl (lv_at hl 0 rfl) ?_
  refine ynew C c_ME (V := v0i) wg_112 wg_43 wg_3 hz v_ME (Nat.le_of_ble_eq_true rfl) (Nat.le_of_ble_eq_true rfl) hS d_BN_init_50 (fun H1 h5 hz1 o1 hS => ?_)
  have hT := hT.kept (o1 _ (by omega))
  have h0 := h0.kept (o1 _ (by omega))
  have h1 := h1.kept (o1 _ (by omega))
  have h2 := h2.kept (o1 _ (by omega))
  have h3 := h3.kept (o1 _ (by omega))
  have h4 := h4.kept (o1 _ (by omega))
  have h4_1 := h4_1.kept (o1 _ (by omega))
  have h4_2 := fun c hc => (h4_2 c hc).kept (o1 _ (by omega))
  have hz := hz1
  refine lv_dup C.1 C.2.1 d_BN_init_53 rfl ?_
  refine ycallN (rest := [.ref (z + 71), .ref a]) C hKA hml hl.1 (k_ME_init l D cA (z + 71) (z + 72) (by omega)) q_ME_init rfl rfl wn_113 wg_45 rfl ⟨Nat.le_of_ble_eq_true rfl, Nat.le_of_ble_eq_true rfl⟩ (Nat.le_of_ble_eq_true rfl) (Nat.le_of_ble_eq_true rfl) hz h5 hS (fun q hq => by rcases hq with hq | hq <;> exact hA9 _ (by omega)) (Nat.le_of_ble_eq_true rfl) d_BN_init_54 (fun H1 locs h5 hz1 o1 hS => ?_)
  have hT := hT.kept (o1 _ (by omega) (by omega))
  have h0 := h0.kept (o1 _ (by omega) (by omega))
  have h1 := h1.kept (o1 _ (by omega) (by omega))
  have h2 := h2.kept (o1 _ (by omega) (by omega))
  have h3 := h3.kept (o1 _ (by omega) (by omega))
  have h4 := h4.kept (o1 _ (by omega) (by omega))
  have h4_1 := h4_1.kept (o1 _ (by omega) (by omega))
  have h4_2 := fun c hc => (h4_2 c hc).kept (o1 _ (by omega) (by omega))
  have hz := hz1
  refine yputF C hin c_BN hT (k := 5) (v := .ref (z + 71)) (by decide) wg_383 rfl rfl rfl rfl hS (hA9 _ (by omega)) d_BN_init_57 (fun H1 locs hT hz1 o1 hS => ?_)
  have h0 := h0.kept (o1 _ (by omega))
  have h1 := h1.kept (o1 _ (by omega))
  have h2 := h2.kept (o1 _ (by omega))
  have h3 := h3.kept (o1 _ (by omega))
  have h4 := h4.kept (o1 _ (by omega))
  have h4_1 := h4_1.kept (o1 _ (by omega))
  have h4_2 := fun c hc => (h4_2 c hc).kept (o1 _ (by omega))
  have h5 := h5.kept (o1 _ (by omega))
  have hz := hz1.trans hz
  refine lv_iconst (v := 0) C.1 C.2.1 d_BN_init_60 (by decide) ?_
  refine lv_istore_n C.1 C.2.1 d_BN_init_61 rfl hl (by decide) rfl (fun ls hl => ?_)
  refine w_BN_init_62 l D cA a z ha C hKA hml hA9 (fun H locs ls hl hz hT h1 h2 h3 h4 h4_1 h4_2 h5 hR hF hS => ?_) 8 0 _ _ ls rfl (lv_sub hl [1, 0] rfl) hz hT h1 h2 h3 h4 h4_1 h4_2 h5 (by rw [yfill_0]; exact h0) (fun c hc => absurd hc (Nat.not_lt_zero c)) hS
  have h0 := hR.full
  have hD := hF
  refine lv_iconst (v := 0) C.1 C.2.1 d_BN_init_87 (by decide) ?_
  refine lv_istore_n C.1 C.2.1 d_BN_init_88 rfl hl (by decide) rfl (fun ls hl => ?_)
  refine w_BN_init_89 l D cA a z ha C hKA hml hA9 (fun H locs ls hl hz hT h1 h3 h4 h4_1 h4_2 h5 h0 hD hR hF hS => ?_) 16 0 _ _ ls rfl (lv_sub hl [1, 0] rfl) hz hT h1 h3 h4 h4_1 h4_2 h5 h0 hD (by rw [yfill_0]; exact h2) (fun c hc => absurd hc (Nat.not_lt_zero c)) hS
  have h2 := hR.full
  have hI := hF
  refine lv_iconst (v := 0) C.1 C.2.1 d_BN_init_114 (by decide) ?_
  refine lv_istore_n C.1 C.2.1 d_BN_init_115 rfl hl (by decide) rfl (fun ls hl => ?_)
  refine w_BN_init_116 l D cA a z ha C hKA hml hA9 (fun H locs ls hl hz hT h1 h4 h4_1 h4_2 h5 h0 hD h2 hI hR hF hS => ?_) 100 0 _ _ ls rfl (lv_sub hl [1, 0] rfl) hz hT h1 h4 h4_1 h4_2 h5 h0 hD h2 hI (by rw [yfill_0]; exact h3) (fun c hc => absurd hc (Nat.not_lt_zero c)) hS
  exact yret C hlk hr hz ⟨hT, h0, h1, h2, hR.full, h4, h4_1, h4_2, h5, hD, hI, hF⟩ hS d_BN_init_141
