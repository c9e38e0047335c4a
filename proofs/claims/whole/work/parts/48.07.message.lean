theorem ex_message {st : XS} {a1 a2 : Int32} : (f_BN_message st a1 a2).1 ∈ ([0, 4, 3] : List Nat) := by
  unfold f_BN_message
  repeat' split
  all_goals (dsimp only; decide)
set_option maxRecDepth 100000 in
theorem kw_message (l : Launch) (hlt : l.stackTraces = false) (D : va_G) (cA : Nat → ClassId) (b : Nat) (st : XS) (a1 : Int32) (a2 : Int32) (hp : pok st) (o : Nat) (v : Int64) : xMo cw D cA b o l y_LA_message (Cond.codeWith y_LA_message b_LA_message 5 (some .int) [(0, 10, 13, 30), (0, 10, 17, 28)]) { frames := 7, cells := 1, slots := 6, locals := 112 } st v [.ref (b + 0), .int a1, .int a2, .ref o] (wK 4 (f_BN_message st a1 a2).1) (f_BN_message st a1 a2).2.2 (wV (f_BN_message st a1 a2).1 (f_BN_message st a1 a2).2.1 v) := by
  refine xMo_of rfl (by decide) (Nat.le_of_ble_eq_true rfl) ?_
  intro p e s m below meth c ls C hlk hr hml hl hO htab
  have hl : lv_has ls 5 [(0, .ref (b + 0)), (1, .int a1), (2, .int a2), (3, .ref o)] := hl
  refine lv_aload_n C.1 C.2.1 d_LA_message_0 rfl (lv_at hl 3 rfl) ?_
  refine lv_iconst (v := 0) C.1 C.2.1 d_LA_message_1 (by decide) ?_
  refine lv_aload_n C.1 C.2.1 d_LA_message_2 rfl (lv_at hl 0 rfl) ?_
  refine lv_iload_n C.1 C.2.1 d_LA_message_3 rfl (lv_at hl 1 rfl) ?_
  refine lv_iload_n C.1 C.2.1 d_LA_message_4 rfl (lv_at hl 2 rfl) ?_
  refine xwrap (q0 := 21) (As := [.int a1, .int a2]) C hlk hr hml hl.1 (k_BN_message l hlt D cA b st a1 a2 hp) q_BN_message wg_858 wg_859 wg_860 ⟨Nat.le_of_ble_eq_true rfl, Nat.le_of_ble_eq_true rfl⟩ (Nat.le_of_ble_eq_true rfl) (Nat.le_of_ble_eq_true rfl) hO o_BN rfl c_BN rfl rfl d_LA_message_5 d_LA_message_8 d_LA_message_9 d_LA_message_10 (by decide) d_LA_message_21 d_LA_message_22 rfl (fun h => by rw [wK, if_pos h]) ?_
  intro hex H1 L q ce hP1 ho1 hS1 hc1 hv1 hcl1
  have hKT : KT s := hO.1.2.1
  obtain ⟨x, y, hL, ⟨x1, x2, x3, x4⟩, y1, y2, y3, y4⟩ := tab2 htab
  have hrx : xRow y_LA_message.cls 5 x "java/util/NoSuchElementException" := ⟨by simp [covers, x1, x2], by rw [x4]; decide, by rw [x4]; exact wg_773⟩
  have hry : xRow y_LA_message.cls 5 y "java/lang/IndexOutOfBoundsException" := ⟨by simp [covers, y1, y2], by rw [y4]; decide, by rw [y4]; exact wg_772⟩
  have hx : (f_BN_message st a1 a2).1 = 4 ∨ (f_BN_message st a1 a2).1 = 3 := by have h := ex_message (st := st) (a1 := a1) (a2 := a2); simp only [List.mem_cons, List.not_mem_nil, or_false] at h; exact h.resolve_left hex
  rcases hx with hx | hx
  · rw [hx] at hcl1
    refine xcaught C hc1 hv1 hcl1 (xf_hit C hL hrx (hKT _ wn_795 rfl) hc1 hv1 hcl1) ?_
    rw [x3]
    refine lv_astore C.1 C.2.1 d_LA_message_13 hl (by decide) rfl (fun ls hl => ?_)
    refine lv_iconst (v := 1) C.1 C.2.1 d_LA_message_15 (by decide) ?_
    exact xreto C hlk hr hP1 ho1 hS1 d_LA_message_16 (by rw [hx]; decide)
  · rw [hx] at hcl1
    refine xcaught C hc1 hv1 hcl1 (xf_miss C hL hrx hry hO.2.1.2.2 (hKT _ wn_780 rfl) hc1 hv1 hcl1) ?_
    rw [y3]
    refine lv_astore C.1 C.2.1 d_LA_message_17 hl (by decide) rfl (fun ls hl => ?_)
    refine lv_iconst (v := 2) C.1 C.2.1 d_LA_message_19 (by decide) ?_
    exact xreto C hlk hr hP1 ho1 hS1 d_LA_message_20 (by rw [hx]; decide)
