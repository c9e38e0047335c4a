theorem ex_order {st : XS} {a1 a2 a3 a4 : Int32} : (f_BN_order st a1 a2 a3 a4).1 ∈ ([0, 1, 2] : List Nat) := by
  unfold f_BN_order
  repeat' split
  all_goals (dsimp only; decide)
set_option maxRecDepth 100000 in
theorem kw_order (l : Launch) (hlt : l.stackTraces = false) (D : va_G) (cA : Nat → ClassId) (b : Nat) (st : XS) (a1 : Int32) (a2 : Int32) (a3 : Int32) (a4 : Int32) (hp : pok st) (hn0 : 0 ≤ (st 0 7 0).toInt) (o : Nat) (v : Int64) : xMo cw D cA b o l y_LA_order (Cond.codeWith y_LA_order b_LA_order 7 (some .int) [(0, 14, 17, 13), (0, 14, 21, 15)]) { frames := 7, cells := 1, slots := 6, locals := 114 } st v [.ref (b + 0), .int a1, .int a2, .int a3, .int a4, .ref o] (wK 1 (f_BN_order st a1 a2 a3 a4).1) (f_BN_order st a1 a2 a3 a4).2.2 (wV (f_BN_order st a1 a2 a3 a4).1 (f_BN_order st a1 a2 a3 a4).2.1 v) := by
  refine xMo_of rfl (by decide) (Nat.le_of_ble_eq_true rfl) ?_
  intro p e s m below meth c ls C hlk hr hml hl hO htab
  have hl : lv_has ls 7 [(0, .ref (b + 0)), (1, .int a1), (2, .int a2), (3, .int a3), (4, .int a4), (5, .ref o)] := hl
  refine lv_aload C.1 C.2.1 d_LA_order_0 (lv_at hl 5 rfl) ?_
  refine lv_iconst (v := 0) C.1 C.2.1 d_LA_order_2 (by decide) ?_
  refine lv_aload_n C.1 C.2.1 d_LA_order_3 rfl (lv_at hl 0 rfl) ?_
  refine lv_iload_n C.1 C.2.1 d_LA_order_4 rfl (lv_at hl 1 rfl) ?_
  refine lv_iload_n C.1 C.2.1 d_LA_order_5 rfl (lv_at hl 2 rfl) ?_
  refine lv_iload_n C.1 C.2.1 d_LA_order_6 rfl (lv_at hl 3 rfl) ?_
  refine lv_iload C.1 C.2.1 d_LA_order_7 (lv_at hl 4 rfl) ?_
  refine xwrap (q0 := 25) (As := [.int a1, .int a2, .int a3, .int a4]) C hlk hr hml hl.1 (k_BN_order l hlt D cA b st a1 a2 a3 a4 hp hn0) q_BN_order wg_811 wg_812 wg_813 ⟨Nat.le_of_ble_eq_true rfl, Nat.le_of_ble_eq_true rfl⟩ (Nat.le_of_ble_eq_true rfl) (Nat.le_of_ble_eq_true rfl) hO o_BN rfl c_BN rfl rfl d_LA_order_9 d_LA_order_12 d_LA_order_13 d_LA_order_14 (by decide) d_LA_order_25 d_LA_order_26 rfl (fun h => by rw [wK, if_pos h]) ?_
  intro hex H1 L q ce hP1 ho1 hS1 hc1 hv1 hcl1
  have hKT : KT s := hO.1.2.1
  obtain ⟨x, y, hL, ⟨x1, x2, x3, x4⟩, y1, y2, y3, y4⟩ := tab2 htab
  have hrx : xRow y_LA_order.cls 9 x "java/lang/IllegalArgumentException" := ⟨by simp [covers, x1, x2], by rw [x4]; decide, by rw [x4]; exact wg_641⟩
  have hry : xRow y_LA_order.cls 9 y "java/lang/IllegalStateException" := ⟨by simp [covers, y1, y2], by rw [y4]; decide, by rw [y4]; exact wg_642⟩
  have hx : (f_BN_order st a1 a2 a3 a4).1 = 1 ∨ (f_BN_order st a1 a2 a3 a4).1 = 2 := by have h := ex_order (st := st) (a1 := a1) (a2 := a2) (a3 := a3) (a4 := a4); simp only [List.mem_cons, List.not_mem_nil, or_false] at h; exact h.resolve_left hex
  rcases hx with hx | hx
  · rw [hx] at hcl1
    refine xcaught C hc1 hv1 hcl1 (xf_hit C hL hrx (hKT _ wn_652 rfl) hc1 hv1 hcl1) ?_
    rw [x3]
    refine lv_astore C.1 C.2.1 d_LA_order_17 hl (by decide) rfl (fun ls hl => ?_)
    refine lv_iconst (v := 1) C.1 C.2.1 d_LA_order_19 (by decide) ?_
    exact xreto C hlk hr hP1 ho1 hS1 d_LA_order_20 (by rw [hx]; decide)
  · rw [hx] at hcl1
    refine xcaught C hc1 hv1 hcl1 (xf_miss C hL hrx hry hO.2.1.1 (hKT _ wn_716 rfl) hc1 hv1 hcl1) ?_
    rw [y3]
    refine lv_astore C.1 C.2.1 d_LA_order_21 hl (by decide) rfl (fun ls hl => ?_)
    refine lv_iconst (v := 2) C.1 C.2.1 d_LA_order_23 (by decide) ?_
    exact xreto C hlk hr hP1 ho1 hS1 d_LA_order_24 (by rw [hx]; decide)
