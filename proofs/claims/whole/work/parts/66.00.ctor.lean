def v0i : Nat → Value := fun _ => .int 0
def v0n (n : Nat) : Nat → Value := fun k => if k < n then .null else .int 0
def vRA : Nat → Value := updV v0i 2 (.int 1)
def vKN : Nat → Value := updV v0i 0 (.int (-1))
def vDI : Nat → Value := updV (updV v0i 4 (.int (-1))) 7 (.int (-1000000))
def vOR : Nat → Value := updV v0i 3 (.int (-1))
def vSE (r : Nat) : Nat → Value := updV (updV (updV (v0n 1) 0 (.ref r)) 4 (.int (-1))) 5 (.int (-1000000))
def vCH (r : Nat) : Nat → Value := updV (updV (updV (updV (v0n 3) 0 (.ref r)) 1 (.ref (r + 1))) 2 (.ref (r + 2))) 8 (.int (-1000000))
def bCH (D : va_G) (a r : Nat) (H : Heap) : Prop := xob D 1 a (vCH r) H ∧ xob D 8 r vRA H ∧ xob D 0 (r + 1) v0i H ∧ xob D 4 (r + 2) vKN H
theorem bCH.kept {D : va_G} {a r : Nat} {H H1 : Heap} (h : bCH D a r H) (h1 : ∀ q, q = a ∨ (r ≤ q ∧ q < r + 3) → H1[q]? = H[q]?) : bCH D a r H1 := ⟨h.1.kept (h1 _ (Or.inl rfl)), h.2.1.kept (h1 _ (Or.inr ⟨by omega, by omega⟩)), h.2.2.1.kept (h1 _ (Or.inr ⟨by omega, by omega⟩)), h.2.2.2.kept (h1 _ (Or.inr ⟨by omega, by omega⟩))⟩
theorem v_RA : ∀ k, k < 3 → defaultValue (t_RA k) = v0i k := by
  intro k hk
  match k, hk with
  | 0, _ => rfl
  | 1, _ => rfl
  | 2, _ => rfl
theorem v_AL : ∀ k, k < 10 → defaultValue (t_AL k) = v0i k := by
  intro k hk
  match k, hk with
  | 0, _ => rfl
  | 1, _ => rfl
  | 2, _ => rfl
  | 3, _ => rfl
  | 4, _ => rfl
  | 5, _ => rfl
  | 6, _ => rfl
  | 7, _ => rfl
  | 8, _ => rfl
  | 9, _ => rfl
theorem v_KN : ∀ k, k < 3 → defaultValue (t_KN k) = v0i k := by
  intro k hk
  match k, hk with
  | 0, _ => rfl
  | 1, _ => rfl
  | 2, _ => rfl
theorem v_ME : ∀ k, k < 8 → defaultValue (t_ME k) = v0i k := by
  intro k hk
  match k, hk with
  | 0, _ => rfl
  | 1, _ => rfl
  | 2, _ => rfl
  | 3, _ => rfl
  | 4, _ => rfl
  | 5, _ => rfl
  | 6, _ => rfl
  | 7, _ => rfl
theorem v_DI : ∀ k, k < 8 → defaultValue (t_DI k) = v0i k := by
  intro k hk
  match k, hk with
  | 0, _ => rfl
  | 1, _ => rfl
  | 2, _ => rfl
  | 3, _ => rfl
  | 4, _ => rfl
  | 5, _ => rfl
  | 6, _ => rfl
  | 7, _ => rfl
theorem v_OR : ∀ k, k < 5 → defaultValue (t_OR k) = v0i k := by
  intro k hk
  match k, hk with
  | 0, _ => rfl
  | 1, _ => rfl
  | 2, _ => rfl
  | 3, _ => rfl
  | 4, _ => rfl
theorem v_SE : ∀ k, k < 6 → defaultValue (t_SE k) = (v0n 1) k := by
  intro k hk
  match k, hk with
  | 0, _ => rfl
  | 1, _ => rfl
  | 2, _ => rfl
  | 3, _ => rfl
  | 4, _ => rfl
  | 5, _ => rfl
theorem v_CH : ∀ k, k < 9 → defaultValue (t_CH k) = (v0n 3) k := by
  intro k hk
  match k, hk with
  | 0, _ => rfl
  | 1, _ => rfl
  | 2, _ => rfl
  | 3, _ => rfl
  | 4, _ => rfl
  | 5, _ => rfl
  | 6, _ => rfl
  | 7, _ => rfl
  | 8, _ => rfl
theorem v_DE : ∀ k, k < 9 → defaultValue (t_DE k) = (v0n 2) k := by
  intro k hk
  match k, hk with
  | 0, _ => rfl
  | 1, _ => rfl
  | 2, _ => rfl
  | 3, _ => rfl
  | 4, _ => rfl
  | 5, _ => rfl
  | 6, _ => rfl
  | 7, _ => rfl
  | 8, _ => rfl
theorem v_PO : ∀ k, k < 4 → defaultValue (t_PO k) = (v0n 1) k := by
  intro k hk
  match k, hk with
  | 0, _ => rfl
  | 1, _ => rfl
  | 2, _ => rfl
  | 3, _ => rfl
set_option maxRecDepth 100000 in
set_option maxHeartbeats 4000000 in
theorem k_RA_init (l : Launch) (D : va_G) (cA : Nat → ClassId) (a z : Nat) (ha : a < z) : xIc D cA l y_RA_init (Cond.code y_RA_init b_RA_init 1 none) { frames := 1, cells := 0, slots := 0, locals := 12 } a z 8 v0i 0 0 (fun H => xob D 8 a vRA H) := by
  refine xIc_of (nL := 1) rfl (by decide) (by decide) rfl ?_
  intro p e s m below meth c ls C hKA hin hlk hr hml hl hz hT hS
  have hA9 : ∀ q, (q = a ∨ z ≤ q) → xAi a z q := fun q h => h
  refine lv_aload_n C.1 C.2.1 d_RA_init_0 rfl (lv_at hl 0 rfl) ?_
  refine yobj C hml hl.1 wg_132 wg_27 wg_28 (Nat.le_of_ble_eq_true rfl) (Nat.le_of_ble_eq_true rfl) d_RA_init_1 ?_
  refine lv_aload_n C.1 C.2.1 d_RA_init_4 rfl (lv_at hl 0 rfl) ?_
  refine lv_iconst (v := 1) C.1 C.2.1 d_RA_init_5 (by decide) ?_
  refine yput C c_RA hT (k := 2) (v := .int 1) (by decide) wg_135 rfl rfl rfl hS (hA9 _ (by omega)) d_RA_init_6 (fun H1 locs hT hz1 o1 hS => ?_)
  have hz := hz1.trans hz
  exact yret C hlk hr hz hT hS d_RA_init_9
set_option maxRecDepth 100000 in
set_option maxHeartbeats 4000000 in
theorem k_AL_init (l : Launch) (D : va_G) (cA : Nat → ClassId) (a z : Nat) (ha : a < z) : xIc D cA l y_AL_init (Cond.code y_AL_init b_AL_init 1 none) { frames := 1, cells := 0, slots := 0, locals := 12 } a z 0 v0i 0 0 (fun H => xob D 0 a v0i H) := by
  refine xIc_of (nL := 1) rfl (by decide) (by decide) rfl ?_
  intro p e s m below meth c ls C hKA hin hlk hr hml hl hz hT hS
  have hA9 : ∀ q, (q = a ∨ z ≤ q) → xAi a z q := fun q h => h
  refine lv_aload_n C.1 C.2.1 d_AL_init_0 rfl (lv_at hl 0 rfl) ?_
  refine yobj C hml hl.1 wg_184 wg_27 wg_28 (Nat.le_of_ble_eq_true rfl) (Nat.le_of_ble_eq_true rfl) d_AL_init_1 ?_
  exact yret C hlk hr hz hT hS d_AL_init_4
set_option maxRecDepth 100000 in
set_option maxHeartbeats 4000000 in
theorem k_KN_init (l : Launch) (D : va_G) (cA : Nat → ClassId) (a z : Nat) (ha : a < z) : xIc D cA l y_KN_init (Cond.code y_KN_init b_KN_init 1 none) { frames := 1, cells := 0, slots := 0, locals := 12 } a z 4 v0i 0 0 (fun H => xob D 4 a vKN H) := by
  refine xIc_of (nL := 1) rfl (by decide) (by decide) rfl ?_
  intro p e s m below meth c ls C hKA hin hlk hr hml hl hz hT hS
  have hA9 : ∀ q, (q = a ∨ z ≤ q) → xAi a z q := fun q h => h
  refine lv_aload_n C.1 C.2.1 d_KN_init_0 rfl (lv_at hl 0 rfl) ?_
  refine yobj C hml hl.1 wg_225 wg_27 wg_28 (Nat.le_of_ble_eq_true rfl) (Nat.le_of_ble_eq_true rfl) d_KN_init_1 ?_
  refine lv_aload_n C.1 C.2.1 d_KN_init_4 rfl (lv_at hl 0 rfl) ?_
  refine lv_iconst (v := (-1)) C.1 C.2.1 d_KN_init_5 (by decide) ?_
  refine yput C c_KN hT (k := 0) (v := .int (-1)) (by decide) wg_226 rfl rfl rfl hS (hA9 _ (by omega)) d_KN_init_6 (fun H1 locs hT hz1 o1 hS => ?_)
  have hz := hz1.trans hz
  exact yret C hlk hr hz hT hS d_KN_init_9
set_option maxRecDepth 100000 in
set_option maxHeartbeats 4000000 in
theorem k_ME_init (l : Launch) (D : va_G) (cA : Nat → ClassId) (a z : Nat) (ha : a < z) : xIc D cA l y_ME_init (Cond.code y_ME_init b_ME_init 1 none) { frames := 1, cells := 0, slots := 0, locals := 12 } a z 5 v0i 0 0 (fun H => xob D 5 a v0i H) := by
  refine xIc_of (nL := 1) rfl (by decide) (by decide) rfl ?_
  intro p e s m below meth c ls C hKA hin hlk hr hml hl hz hT hS
  have hA9 : ∀ q, (q = a ∨ z ≤ q) → xAi a z q := fun q h => h
  refine lv_aload_n C.1 C.2.1 d_ME_init_0 rfl (lv_at hl 0 rfl) ?_
  refine yobj C hml hl.1 wg_47 wg_27 wg_28 (Nat.le_of_ble_eq_true rfl) (Nat.le_of_ble_eq_true rfl) d_ME_init_1 ?_
  exact yret C hlk hr hz hT hS d_ME_init_4
set_option maxRecDepth 100000 in
set_option maxHeartbeats 4000000 in
theorem k_DI_init (l : Launch) (D : va_G) (cA : Nat → ClassId) (a z : Nat) (ha : a < z) : xIc D cA l y_DI_init (Cond.code y_DI_init b_DI_init 1 none) { frames := 1, cells := 0, slots := 0, locals := 12 } a z 3 v0i 0 0 (fun H => xob D 3 a vDI H) := by
  refine xIc_of (nL := 1) rfl (by decide) (by decide) rfl ?_
  intro p e s m below meth c ls C hKA hin hlk hr hml hl hz hT hS
  have hA9 : ∀ q, (q = a ∨ z ≤ q) → xAi a z q := fun q h => h
  refine lv_aload_n C.1 C.2.1 d_DI_init_0 rfl (lv_at hl 0 rfl) ?_
  refine yobj C hml hl.1 wg_321 wg_27 wg_28 (Nat.le_of_ble_eq_true rfl) (Nat.le_of_ble_eq_true rfl) d_DI_init_1 ?_
  refine lv_aload_n C.1 C.2.1 d_DI_init_4 rfl (lv_at hl 0 rfl) ?_
  refine lv_iconst (v := (-1)) C.1 C.2.1 d_DI_init_5 (by decide) ?_
  refine yput C c_DI hT (k := 4) (v := .int (-1)) (by decide) wg_329 rfl rfl rfl hS (hA9 _ (by omega)) d_DI_init_6 (fun H1 locs hT hz1 o1 hS => ?_)
  have hz := hz1.trans hz
  refine lv_aload_n C.1 C.2.1 d_DI_init_9 rfl (lv_at hl 0 rfl) ?_
  refine lv_ldc (v := (-1000000)) C.1 C.2.1 C.2.2.1 (C.2.2.2.1 _ wg_322) d_DI_init_10 ?_
  refine yput C c_DI hT (k := 7) (v := .int (-1000000)) (by decide) wg_334 rfl rfl rfl hS (hA9 _ (by omega)) d_DI_init_12 (fun H1 locs hT hz1 o1 hS => ?_)
  have hz := hz1.trans hz
  exact yret C hlk hr hz hT hS d_DI_init_15
set_option maxRecDepth 100000 in
set_option maxHeartbeats 4000000 in
theorem k_OR_init (l : Launch) (D : va_G) (cA : Nat → ClassId) (a z : Nat) (ha : a < z) : xIc D cA l y_OR_init (Cond.code y_OR_init b_OR_init 1 none) { frames := 1, cells := 0, slots := 0, locals := 12 } a z 6 v0i 0 0 (fun H => xob D 6 a vOR H) := by
  refine xIc_of (nL := 1) rfl (by decide) (by decide) rfl ?_
  intro p e s m below meth c ls C hKA hin hlk hr hml hl hz hT hS
  have hA9 : ∀ q, (q = a ∨ z ≤ q) → xAi a z q := fun q h => h
  refine lv_aload_n C.1 C.2.1 d_OR_init_0 rfl (lv_at hl 0 rfl) ?_
  refine yobj C hml hl.1 wg_357 wg_27 wg_28 (Nat.le_of_ble_eq_true rfl) (Nat.le_of_ble_eq_true rfl) d_OR_init_1 ?_
  refine lv_aload_n C.1 C.2.1 d_OR_init_4 rfl (lv_at hl 0 rfl) ?_
  refine lv_iconst (v := (-1)) C.1 C.2.1 d_OR_init_5 (by decide) ?_
  refine yput C c_OR hT (k := 3) (v := .int (-1)) (by decide) wg_364 rfl rfl rfl hS (hA9 _ (by omega)) d_OR_init_6 (fun H1 locs hT hz1 o1 hS => ?_)
  have hz := hz1.trans hz
  exact yret C hlk hr hz hT hS d_OR_init_9
set_option maxRecDepth 100000 in
set_option maxHeartbeats 4000000 in
theorem k_SE_init (l : Launch) (D : va_G) (cA : Nat → ClassId) (a z : Nat) (ha : a < z) : xIc D cA l y_SE_init (Cond.code y_SE_init b_SE_init 1 none) { frames := 2, cells := 1, slots := 3, locals := 32 } a z 9 (v0n 1) 1 3 (fun H => xob D 9 a (vSE z) H ∧ xob D 8 z vRA H) := by
  refine xIc_of (nL := 1) rfl (by decide) (by decide) rfl ?_
  intro p e s m below meth c ls C hKA hin hlk hr hml hl hz hT hS
  have hA9 : ∀ q, (q = a ∨ z ≤ q) → xAi a z q := fun q h => h
  refine lv_aload_n C.1 C.2.1 d_SE_init_0 rfl (lv_at hl 0 rfl) ?_
  refine yobj C hml hl.1 wg_126 wg_27 wg_28 (Nat.le_of_ble_eq_true rfl) (Nat.le_of_ble_eq_true rfl) d_SE_init_1 ?_
  refine lv_aload_n C.1 C.2.1 d_SE_init_4 rfl (lv_at hl 0 rfl) ?_
  refine ynew C c_RA (V := v0i) wg_127 wg_128 wg_6 hz v_RA (Nat.le_of_ble_eq_true rfl) (Nat.le_of_ble_eq_true rfl) hS d_SE_init_5 (fun H1 h0 hz1 o1 hS => ?_)
  have hT := hT.kept (o1 _ (by omega))
  have hz := hz1
  refine lv_dup C.1 C.2.1 d_SE_init_8 rfl ?_
  refine ycallN (rest := [.ref z, .ref a]) C hKA hml hl.1 (k_RA_init l D cA z (z + 1) (by omega)) q_RA_init rfl rfl wn_129 wg_130 rfl ⟨Nat.le_of_ble_eq_true rfl, Nat.le_of_ble_eq_true rfl⟩ (Nat.le_of_ble_eq_true rfl) (Nat.le_of_ble_eq_true rfl) hz h0 hS (fun q hq => by rcases hq with hq | hq <;> exact hA9 _ (by omega)) (Nat.le_of_ble_eq_true rfl) d_SE_init_9 (fun H1 locs h0 hz1 o1 hS => ?_)
  have hT := hT.kept (o1 _ (by omega) (by omega))
  have hz := hz1
  refine yputF C hin c_SE hT (k := 0) (v := .ref z) (by decide) wg_144 rfl rfl rfl rfl hS (hA9 _ (by omega)) d_SE_init_12 (fun H1 locs hT hz1 o1 hS => ?_)
  have h0 := h0.kept (o1 _ (by omega))
  have hz := hz1.trans hz
  refine lv_aload_n C.1 C.2.1 d_SE_init_15 rfl (lv_at hl 0 rfl) ?_
  refine lv_iconst (v := (-1)) C.1 C.2.1 d_SE_init_16 (by decide) ?_
  refine yput C c_SE hT (k := 4) (v := .int (-1)) (by decide) wg_153 rfl rfl rfl hS (hA9 _ (by omega)) d_SE_init_17 (fun H1 locs hT hz1 o1 hS => ?_)
  have h0 := h0.kept (o1 _ (by omega))
  have hz := hz1.trans hz
  refine lv_aload_n C.1 C.2.1 d_SE_init_20 rfl (lv_at hl 0 rfl) ?_
  refine lv_ldc (v := (-1000000)) C.1 C.2.1 C.2.2.1 (C.2.2.2.1 _ wg_143) d_SE_init_21 ?_
  refine yput C c_SE hT (k := 5) (v := .int (-1000000)) (by decide) wg_155 rfl rfl rfl hS (hA9 _ (by omega)) d_SE_init_23 (fun H1 locs hT hz1 o1 hS => ?_)
  have h0 := h0.kept (o1 _ (by omega))
  have hz := hz1.trans hz
  exact yret C hlk hr hz ⟨hT, h0⟩ hS d_SE_init_26
set_option maxRecDepth 100000 in
set_option maxHeartbeats 4000000 in
theorem k_CH_init (l : Launch) (D : va_G) (cA : Nat → ClassId) (a z : Nat) (ha : a < z) : xIc D cA l y_CH_init (Cond.code y_CH_init b_CH_init 1 none) { frames := 2, cells := 3, slots := 16, locals := 32 } a z 1 (v0n 3) 3 16 (fun H => bCH D a z H) := by
  refine xIc_of (nL := 1) rfl (by decide) (by decide) rfl ?_
  intro p e s m below meth c ls C hKA hin hlk hr hml hl hz hT hS
  have hA9 : ∀ q, (q = a ∨ z ≤ q) → xAi a z q := fun q h => h
  refine lv_aload_n C.1 C.2.1 d_CH_init_0 rfl (lv_at hl 0 rfl) ?_
  refine yobj C hml hl.1 wg_176 wg_27 wg_28 (Nat.le_of_ble_eq_true rfl) (Nat.le_of_ble_eq_true rfl) d_CH_init_1 ?_
  refine lv_aload_n C.1 C.2.1 d_CH_init_4 rfl (lv_at hl 0 rfl) ?_
  refine ynew C c_RA (V := v0i) wg_177 wg_128 wg_6 hz v_RA (Nat.le_of_ble_eq_true rfl) (Nat.le_of_ble_eq_true rfl) hS d_CH_init_5 (fun H1 h0 hz1 o1 hS => ?_)
  have hT := hT.kept (o1 _ (by omega))
  have hz := hz1
  refine lv_dup C.1 C.2.1 d_CH_init_8 rfl ?_
  refine ycallN (rest := [.ref z, .ref a]) C hKA hml hl.1 (k_RA_init l D cA z (z + 1) (by omega)) q_RA_init rfl rfl wn_178 wg_130 rfl ⟨Nat.le_of_ble_eq_true rfl, Nat.le_of_ble_eq_true rfl⟩ (Nat.le_of_ble_eq_true rfl) (Nat.le_of_ble_eq_true rfl) hz h0 hS (fun q hq => by rcases hq with hq | hq <;> exact hA9 _ (by omega)) (Nat.le_of_ble_eq_true rfl) d_CH_init_9 (fun H1 locs h0 hz1 o1 hS => ?_)
  have hT := hT.kept (o1 _ (by omega) (by omega))
  have hz := hz1
  refine yputF C hin c_CH hT (k := 0) (v := .ref z) (by decide) wg_240 rfl rfl rfl rfl hS (hA9 _ (by omega)) d_CH_init_12 (fun H1 locs hT hz1 o1 hS => ?_)
  have h0 := h0.kept (o1 _ (by omega))
  have hz := hz1.trans hz
  refine lv_aload_n C.1 C.2.1 d_CH_init_15 rfl (lv_at hl 0 rfl) ?_
  refine ynew C c_AL (V := v0i) wg_179 wg_180 wg_8 hz v_AL (Nat.le_of_ble_eq_true rfl) (Nat.le_of_ble_eq_true rfl) hS d_CH_init_16 (fun H1 h1 hz1 o1 hS => ?_)
  have hT := hT.kept (o1 _ (by omega))
  have h0 := h0.kept (o1 _ (by omega))
  have hz := hz1
  refine lv_dup C.1 C.2.1 d_CH_init_19 rfl ?_
  refine ycallN (rest := [.ref (z + 1), .ref a]) C hKA hml hl.1 (k_AL_init l D cA (z + 1) (z + 2) (by omega)) q_AL_init rfl rfl wn_181 wg_182 rfl ⟨Nat.le_of_ble_eq_true rfl, Nat.le_of_ble_eq_true rfl⟩ (Nat.le_of_ble_eq_true rfl) (Nat.le_of_ble_eq_true rfl) hz h1 hS (fun q hq => by rcases hq with hq | hq <;> exact hA9 _ (by omega)) (Nat.le_of_ble_eq_true rfl) d_CH_init_20 (fun H1 locs h1 hz1 o1 hS => ?_)
  have hT := hT.kept (o1 _ (by omega) (by omega))
  have h0 := h0.kept (o1 _ (by omega) (by omega))
  have hz := hz1
  refine yputF C hin c_CH hT (k := 1) (v := .ref (z + 1)) (by decide) wg_242 rfl rfl rfl rfl hS (hA9 _ (by omega)) d_CH_init_23 (fun H1 locs hT hz1 o1 hS => ?_)
  have h0 := h0.kept (o1 _ (by omega))
  have h1 := h1.kept (o1 _ (by omega))
  have hz := hz1.trans hz
  refine lv_aload_n C.1 C.2.1 d_CH_init_26 rfl (lv_at hl 0 rfl) ?_
  refine ynew C c_KN (V := v0i) wg_220 wg_221 wg_9 hz v_KN (Nat.le_of_ble_eq_true rfl) (Nat.le_of_ble_eq_true rfl) hS d_CH_init_27 (fun H1 h2 hz1 o1 hS => ?_)
  have hT := hT.kept (o1 _ (by omega))
  have h0 := h0.kept (o1 _ (by omega))
  have h1 := h1.kept (o1 _ (by omega))
  have hz := hz1
  refine lv_dup C.1 C.2.1 d_CH_init_30 rfl ?_
  refine ycallN (rest := [.ref (z + 2), .ref a]) C hKA hml hl.1 (k_KN_init l D cA (z + 2) (z + 3) (by omega)) q_KN_init rfl rfl wn_222 wg_223 rfl ⟨Nat.le_of_ble_eq_true rfl, Nat.le_of_ble_eq_true rfl⟩ (Nat.le_of_ble_eq_true rfl) (Nat.le_of_ble_eq_true rfl) hz h2 hS (fun q hq => by rcases hq with hq | hq <;> exact hA9 _ (by omega)) (Nat.le_of_ble_eq_true rfl) d_CH_init_31 (fun H1 locs h2 hz1 o1 hS => ?_)
  have hT := hT.kept (o1 _ (by omega) (by omega))
  have h0 := h0.kept (o1 _ (by omega) (by omega))
  have h1 := h1.kept (o1 _ (by omega) (by omega))
  have hz := hz1
  refine yputF C hin c_CH hT (k := 2) (v := .ref (z + 2)) (by decide) wg_245 rfl rfl rfl rfl hS (hA9 _ (by omega)) d_CH_init_34 (fun H1 locs hT hz1 o1 hS => ?_)
  have h0 := h0.kept (o1 _ (by omega))
  have h1 := h1.kept (o1 _ (by omega))
  have h2 := h2.kept (o1 _ (by omega))
  have hz := hz1.trans hz
  refine lv_aload_n C.1 C.2.1 d_CH_init_37 rfl (lv_at hl 0 rfl) ?_
  refine lv_ldc (v := (-1000000)) C.1 C.2.1 C.2.2.1 (C.2.2.2.1 _ wg_239) d_CH_init_38 ?_
  refine yput C c_CH hT (k := 8) (v := .int (-1000000)) (by decide) wg_259 rfl rfl rfl hS (hA9 _ (by omega)) d_CH_init_40 (fun H1 locs hT hz1 o1 hS => ?_)
  have h0 := h0.kept (o1 _ (by omega))
  have h1 := h1.kept (o1 _ (by omega))
  have h2 := h2.kept (o1 _ (by omega))
  have hz := hz1.trans hz
  exact yret C hlk hr hz ⟨hT, h0, h1, h2⟩ hS d_CH_init_43
