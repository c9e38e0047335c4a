theorem ex_tick {st : XS} {a1 : Int32} : (f_BN_tick st a1).1 ∈ ([0, 1] : List Nat) := by
  unfold f_BN_tick
  repeat' split
  all_goals (dsimp only; decide)
set_option maxRecDepth 100000 in
theorem kw_tick (l : Launch) (hlt : l.stackTraces = false) (D : va_G) (cA : Nat → ClassId) (b : Nat) (st : XS) (a1 : Int32) (hp : pok st) (ho : dok st) (o : Nat) (v : Int64) : xMo cw D cA b o l y_LA_tick (Cond.codeWith y_LA_tick b_LA_tick 4 (some .int) [(0, 9, 12, 13)]) { frames := 7, cells := 1, slots := 6, locals := 116 } st v [.ref (b + 0), .int a1, .ref o] (wK 1 (f_BN_tick st a1).1) (f_BN_tick st a1).2.2 (wV (f_BN_tick st a1).1 (f_BN_tick st a1).2.1 v) := by
  refine xMo_of rfl (by decide) (Nat.le_of_ble_eq_true rfl) ?_
  intro p e s m below meth c ls C hlk hr hml hl hO htab
  have hl : lv_has ls 4 [(0, .ref (b + 0)), (1, .int a1), (2, .ref o)] := hl
  refine lv_aload_n C.1 C.2.1 d_LA_tick_0 rfl (lv_at hl 2 rfl) ?_
  refine lv_iconst (v := 0) C.1 C.2.1 d_LA_tick_1 (by decide) ?_
  refine lv_aload_n C.1 C.2.1 d_LA_tick_2 rfl (lv_at hl 0 rfl) ?_
  refine lv_iload_n C.1 C.2.1 d_LA_tick_3 rfl (lv_at hl 1 rfl) ?_
  refine xwrap (q0 := 15) (As := [.int a1]) C hlk hr hml hl.1 (k_BN_tick l hlt D cA b st a1 hp ho) q_BN_tick wg_737 wg_738 wg_739 ⟨Nat.le_of_ble_eq_true rfl, Nat.le_of_ble_eq_true rfl⟩ (Nat.le_of_ble_eq_true rfl) (Nat.le_of_ble_eq_true rfl) hO o_BN rfl c_BN rfl rfl d_LA_tick_4 d_LA_tick_7 d_LA_tick_8 d_LA_tick_9 (by decide) d_LA_tick_15 d_LA_tick_16 rfl (fun h => by rw [wK, if_pos h]) ?_
  intro hex H1 L q ce hP1 ho1 hS1 hc1 hv1 hcl1
  have hKT : KT s := hO.1.2.1
  have hx : (f_BN_tick st a1).1 = 1 := by have h := ex_tick (st := st) (a1 := a1); simp only [List.mem_cons, List.not_mem_nil, or_false] at h; exact h.resolve_left hex
  obtain ⟨x, hL, x1, x2, x3, x4⟩ := tab1 htab
  have hrow : xRow y_LA_tick.cls 4 x "java/lang/IllegalArgumentException" := ⟨by simp [covers, x1, x2], by rw [x4]; decide, by rw [x4]; exact wg_641⟩
  rw [hx] at hcl1
  refine xcaught C hc1 hv1 hcl1 (xf_hit C hL hrow (hKT _ wn_652 rfl) hc1 hv1 hcl1) ?_
  rw [x3]
  refine lv_astore_n C.1 C.2.1 d_LA_tick_12 rfl hl (by decide) rfl (fun ls hl => ?_)
  refine lv_iconst (v := 1) C.1 C.2.1 d_LA_tick_13 (by decide) ?_
  exact xreto C hlk hr hP1 ho1 hS1 d_LA_tick_14 (by rw [hx]; decide)
