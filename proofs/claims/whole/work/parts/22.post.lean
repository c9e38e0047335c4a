def f_PO_send (st : XS) (a1 : Int32) (a2 : Int32) (a3 : Int32) (a4 : Int32) (a5 : Int32) (a6 : Int32) (a7 : Int32) : XS :=
  if 64 ≤ (st 5 1 0) then (xu (xu (xu (xu (xu (xu (xu (xu (xu (xu st 7 0 (st 6 ((st 5 1 0)).toNatClampNeg 0).toNatClampNeg (st 5 2 0)) 7 1 (st 6 ((st 5 1 0)).toNatClampNeg 0).toNatClampNeg a1) 7 2 (st 6 ((st 5 1 0)).toNatClampNeg 0).toNatClampNeg a2) 7 3 (st 6 ((st 5 1 0)).toNatClampNeg 0).toNatClampNeg a3) 7 4 (st 6 ((st 5 1 0)).toNatClampNeg 0).toNatClampNeg a4) 7 5 (st 6 ((st 5 1 0)).toNatClampNeg 0).toNatClampNeg a5) 7 6 (st 6 ((st 5 1 0)).toNatClampNeg 0).toNatClampNeg a6) 7 7 (st 6 ((st 5 1 0)).toNatClampNeg 0).toNatClampNeg a7) 5 2 0 ((st 5 2 0) + 1)) 5 3 0 ((st 5 3 0) + 1))
  else (xu (xu (xu (xu (xu (xu (xu (xu (xu (xu st 7 0 (st 6 ((st 5 1 0)).toNatClampNeg 0).toNatClampNeg (st 5 2 0)) 7 1 (st 6 ((st 5 1 0)).toNatClampNeg 0).toNatClampNeg a1) 7 2 (st 6 ((st 5 1 0)).toNatClampNeg 0).toNatClampNeg a2) 7 3 (st 6 ((st 5 1 0)).toNatClampNeg 0).toNatClampNeg a3) 7 4 (st 6 ((st 5 1 0)).toNatClampNeg 0).toNatClampNeg a4) 7 5 (st 6 ((st 5 1 0)).toNatClampNeg 0).toNatClampNeg a5) 7 6 (st 6 ((st 5 1 0)).toNatClampNeg 0).toNatClampNeg a6) 7 7 (st 6 ((st 5 1 0)).toNatClampNeg 0).toNatClampNeg a7) 5 2 0 ((st 5 2 0) + 1)) 5 1 0 ((st 5 1 0) + 1))
set_option maxRecDepth 100000 in
set_option maxHeartbeats 4000000 in
theorem fr_PO_send {st : XS} {a1 : Int32} {a2 : Int32} {a3 : Int32} {a4 : Int32} {a5 : Int32} {a6 : Int32} {a7 : Int32} {a' k' i' : Nat} (h : (a', k') ∉ ([(5, 1), (5, 2), (5, 3), (7, 0), (7, 1), (7, 2), (7, 3), (7, 4), (7, 5), (7, 6), (7, 7)] : List (Nat × Nat))) (h2 : a' ∉ ([] : List Nat)) : (f_PO_send st a1 a2 a3 a4 a5 a6 a7) a' k' i' = st a' k' i' := by
  unfold f_PO_send
  repeat' split
  all_goals (try dsimp only)
  all_goals (repeat (first | with_reducible rfl | rw [xu_f (fun e => h (by rw [e]; decide))]))
set_option maxRecDepth 100000 in
set_option maxHeartbeats 4000000 in
theorem k_PO_send (l : Launch) (D : va_G) (cA : Nat → ClassId) (b : Nat) (st : XS) (a1 : Int32) (a2 : Int32) (a3 : Int32) (a4 : Int32) (a5 : Int32) (a6 : Int32) (a7 : Int32) (hp : pok st) : xMv cw D cA b l y_PO_send (Cond.code y_PO_send b_PO_send 9 none) { frames := 0, cells := 0, slots := 0, locals := 0 } st [.ref (b + 5), .int a1, .int a2, .int a3, .int a4, .int a5, .int a6, .int a7] (f_PO_send st a1 a2 a3 a4 a5 a6 a7) := by
  refine xMv_of rfl (by decide) (Nat.le_of_ble_eq_true rfl) ?_
  intro p e s m below meth c ls C hlk hr hml hl hP hS
  have hl : lv_has ls 9 [(0, .ref (b + 5)), (1, .int a1), (2, .int a2), (3, .int a3), (4, .int a4), (5, .int a5), (6, .int a6), (7, .int a7)] := hl
  refine lv_aload_n C.1 C.2.1 d_PO_send_0 rfl (lv_at hl 0 rfl) ?_
  refine xget C hP o_PO rfl c_PO (k := 0) (v := .ref (b + 6)) (by decide) wg_95 rfl d_PO_send_1 ?_
  refine lv_aload_n C.1 C.2.1 d_PO_send_4 rfl (lv_at hl 0 rfl) ?_
  refine xget C hP o_PO rfl c_PO (k := 1) (v := .int (st 5 1 0)) (by decide) wg_97 rfl d_PO_send_5 ?_
  refine xaald C hP o_sa rfl (E := R_ME) rfl (v := b + (7 + (st 6 ((st 5 1 0)).toNatClampNeg 0).toNatClampNeg)) (pok_p hp) rfl d_PO_send_8 ?_
  refine lv_astore C.1 C.2.1 d_PO_send_9 hl (by decide) rfl (fun ls hl => ?_)
  have hl : lv_has ls 9 [(8, .ref (b + (7 + (st 6 ((st 5 1 0)).toNatClampNeg 0).toNatClampNeg))), (0, .ref (b + 5)), (1, .int a1), (2, .int a2), (3, .int a3), (4, .int a4), (5, .int a5), (6, .int a6), (7, .int a7)] := hl
  refine lv_aload C.1 C.2.1 d_PO_send_11 (lv_at hl 0 rfl) ?_
  refine lv_aload_n C.1 C.2.1 d_PO_send_13 rfl (lv_at hl 1 rfl) ?_
  refine xget C hP o_PO rfl c_PO (k := 2) (v := .int (st 5 2 0)) (by decide) wg_99 rfl d_PO_send_14 ?_
  refine xputN cw_inj C hP hS (o_ME (hp.2.2 _ (xin_lt (pok_p hp)))) rfl c_ME (k := 0) (x := (st 5 2 0)) (by decide) wn_49 rfl rfl rfl rfl d_PO_send_17 (fun H locs hP hS => ?_)
  refine lv_aload C.1 C.2.1 d_PO_send_20 (lv_at hl 0 rfl) ?_
  refine lv_iload_n C.1 C.2.1 d_PO_send_22 rfl (lv_at hl 2 rfl) ?_
  refine xputN cw_inj C hP hS (o_ME (hp.2.2 _ (xin_lt (pok_p hp)))) rfl c_ME (k := 1) (x := a1) (by decide) wn_53 rfl rfl rfl rfl d_PO_send_23 (fun H locs hP hS => ?_)
  refine lv_aload C.1 C.2.1 d_PO_send_26 (lv_at hl 0 rfl) ?_
  refine lv_iload_n C.1 C.2.1 d_PO_send_28 rfl (lv_at hl 3 rfl) ?_
  refine xputN cw_inj C hP hS (o_ME (hp.2.2 _ (xin_lt (pok_p hp)))) rfl c_ME (k := 2) (x := a2) (by decide) wn_56 rfl rfl rfl rfl d_PO_send_29 (fun H locs hP hS => ?_)
  refine lv_aload C.1 C.2.1 d_PO_send_32 (lv_at hl 0 rfl) ?_
  refine lv_iload_n C.1 C.2.1 d_PO_send_34 rfl (lv_at hl 4 rfl) ?_
  refine xputN cw_inj C hP hS (o_ME (hp.2.2 _ (xin_lt (pok_p hp)))) rfl c_ME (k := 3) (x := a3) (by decide) wn_60 rfl rfl rfl rfl d_PO_send_35 (fun H locs hP hS => ?_)
  refine lv_aload C.1 C.2.1 d_PO_send_38 (lv_at hl 0 rfl) ?_
  refine lv_iload C.1 C.2.1 d_PO_send_40 (lv_at hl 5 rfl) ?_
  refine xputN cw_inj C hP hS (o_ME (hp.2.2 _ (xin_lt (pok_p hp)))) rfl c_ME (k := 4) (x := a4) (by decide) wn_64 rfl rfl rfl rfl d_PO_send_42 (fun H locs hP hS => ?_)
  refine lv_aload C.1 C.2.1 d_PO_send_45 (lv_at hl 0 rfl) ?_
  refine lv_iload C.1 C.2.1 d_PO_send_47 (lv_at hl 6 rfl) ?_
  refine xputN cw_inj C hP hS (o_ME (hp.2.2 _ (xin_lt (pok_p hp)))) rfl c_ME (k := 5) (x := a5) (by decide) wn_68 rfl rfl rfl rfl d_PO_send_49 (fun H locs hP hS => ?_)
  refine lv_aload C.1 C.2.1 d_PO_send_52 (lv_at hl 0 rfl) ?_
  refine lv_iload C.1 C.2.1 d_PO_send_54 (lv_at hl 7 rfl) ?_
  refine xputN cw_inj C hP hS (o_ME (hp.2.2 _ (xin_lt (pok_p hp)))) rfl c_ME (k := 6) (x := a6) (by decide) wn_72 rfl rfl rfl rfl d_PO_send_56 (fun H locs hP hS => ?_)
  refine lv_aload C.1 C.2.1 d_PO_send_59 (lv_at hl 0 rfl) ?_
  refine lv_iload C.1 C.2.1 d_PO_send_61 (lv_at hl 8 rfl) ?_
  refine xputN cw_inj C hP hS (o_ME (hp.2.2 _ (xin_lt (pok_p hp)))) rfl c_ME (k := 7) (x := a7) (by decide) wn_75 rfl rfl rfl rfl d_PO_send_63 (fun H locs hP hS => ?_)
  refine lv_aload_n C.1 C.2.1 d_PO_send_66 rfl (lv_at hl 1 rfl) ?_
  refine lv_dup C.1 C.2.1 d_PO_send_67 rfl ?_
  refine xget C hP o_PO rfl c_PO (k := 2) (v := .int (st 5 2 0)) (by decide) wg_99 (congrArg Value.int (Eq.trans (xu_a (by decide)) (Eq.trans (xu_a (by decide)) (Eq.trans (xu_a (by decide)) (Eq.trans (xu_a (by decide)) (Eq.trans (xu_a (by decide)) (Eq.trans (xu_a (by decide)) (Eq.trans (xu_a (by decide)) (xu_a (by decide)))))))))) d_PO_send_68 ?_
  refine lv_iconst (v := 1) C.1 C.2.1 d_PO_send_71 (by decide) ?_
  refine lv_iadd C.1 C.2.1 d_PO_send_72 ?_
  refine xput cw_inj C hP hS o_PO rfl c_PO (k := 2) (x := ((st 5 2 0) + 1)) (by decide) wg_99 rfl rfl rfl rfl d_PO_send_73 (fun H locs hP hS => ?_)
  refine lv_aload_n C.1 C.2.1 d_PO_send_76 rfl (lv_at hl 1 rfl) ?_
  refine xget C hP o_PO rfl c_PO (k := 1) (v := .int (st 5 1 0)) (by decide) wg_97 (congrArg Value.int (Eq.trans (xu_f (by decide)) (Eq.trans (xu_a (by decide)) (Eq.trans (xu_a (by decide)) (Eq.trans (xu_a (by decide)) (Eq.trans (xu_a (by decide)) (Eq.trans (xu_a (by decide)) (Eq.trans (xu_a (by decide)) (Eq.trans (xu_a (by decide)) (xu_a (by decide))))))))))) d_PO_send_77 ?_
  refine lv_bipush (v := 64) C.1 C.2.1 d_PO_send_80 (by decide) ?_
  refine lv_icmp_ge (tgt := 98) C.1 C.2.1 d_PO_send_82 (by decide) (fun h1 => ?_) (fun h1 => ?_)
  · refine lv_aload_n C.1 C.2.1 d_PO_send_98 rfl (lv_at hl 1 rfl) ?_
    refine lv_dup C.1 C.2.1 d_PO_send_99 rfl ?_
    refine xget C hP o_PO rfl c_PO (k := 3) (v := .int (st 5 3 0)) (by decide) wg_101 (congrArg Value.int (Eq.trans (xu_f (by decide)) (Eq.trans (xu_a (by decide)) (Eq.trans (xu_a (by decide)) (Eq.trans (xu_a (by decide)) (Eq.trans (xu_a (by decide)) (Eq.trans (xu_a (by decide)) (Eq.trans (xu_a (by decide)) (Eq.trans (xu_a (by decide)) (xu_a (by decide))))))))))) d_PO_send_100 ?_
    refine lv_iconst (v := 1) C.1 C.2.1 d_PO_send_103 (by decide) ?_
    refine lv_iadd C.1 C.2.1 d_PO_send_104 ?_
    refine xput cw_inj C hP hS o_PO rfl c_PO (k := 3) (x := ((st 5 3 0) + 1)) (by decide) wg_101 rfl rfl rfl rfl d_PO_send_105 (fun H locs hP hS => ?_)
    exact xrv C hlk hr hP hS d_PO_send_108 (by rw [f_PO_send, if_pos h1])
  · refine lv_aload_n C.1 C.2.1 d_PO_send_85 rfl (lv_at hl 1 rfl) ?_
    refine lv_dup C.1 C.2.1 d_PO_send_86 rfl ?_
    refine xget C hP o_PO rfl c_PO (k := 1) (v := .int (st 5 1 0)) (by decide) wg_97 (congrArg Value.int (Eq.trans (xu_f (by decide)) (Eq.trans (xu_a (by decide)) (Eq.trans (xu_a (by decide)) (Eq.trans (xu_a (by decide)) (Eq.trans (xu_a (by decide)) (Eq.trans (xu_a (by decide)) (Eq.trans (xu_a (by decide)) (Eq.trans (xu_a (by decide)) (xu_a (by decide))))))))))) d_PO_send_87 ?_
    refine lv_iconst (v := 1) C.1 C.2.1 d_PO_send_90 (by decide) ?_
    refine lv_iadd C.1 C.2.1 d_PO_send_91 ?_
    refine xput cw_inj C hP hS o_PO rfl c_PO (k := 1) (x := ((st 5 1 0) + 1)) (by decide) wg_97 rfl rfl rfl rfl d_PO_send_92 (fun H locs hP hS => ?_)
    refine lv_goto (tgt := 108) C.1 C.2.1 d_PO_send_95 (by decide) ?_
    exact xrv C hlk hr hP hS d_PO_send_108 (by rw [f_PO_send, if_neg h1])

def g_PO_indexOf_2 : Nat → XS → Int32 → Int32 → Int32
  | 0, st, a1, x2 => 0
  | n + 1, st, a1, x2 =>
    if (st 5 1 0) ≤ x2 then (-1)
    else if (st 7 0 (st 6 x2.toNatClampNeg 0).toNatClampNeg) = a1 then x2
    else (g_PO_indexOf_2 n st a1 (x2 + 1))
set_option maxRecDepth 100000 in
set_option maxHeartbeats 4000000 in
theorem w_PO_indexOf_2 (l : Launch) (D : va_G) (cA : Nat → ClassId) (b : Nat) (a1 : Int32) (st : XS) {p : Program} {e : Env} {s : State} {m : MethodId} {below : List Frame} {meth : Method} {c : Code} (C : xCx p s m ([.ref (b + 5), .int a1] : List Value).toArray c b_PO_indexOf y_PO_indexOf.cls D cA) (hlk : meth.locks = false) (hr : meth.sig.returnType = some .int) (hml : c.maxLocals = 3) {r : Int32} : ∀ (n : Nat) (x2 : Int32) (H : Heap) (locs : List Loc) (ls : Array Slot), lpi 64 n x2 → pok st → lv_has ls 3 [(0, .ref (b + 5)), (1, .int a1), (2, .int x2)] → xP cw D cA b st H → va_S (xA cw b) s.heap H locs → g_PO_indexOf_2 n st a1 x2 = r → W p l e { frames := 0, cells := 0, slots := 0, locals := 0 } s m ([.ref (b + 5), .int a1] : List Value).toArray below meth c H locs 0 0 (xEi cw D cA b below ([.ref (b + 5), .int a1] : List Value).toArray s r st) (F0 m 2 ls []) := by
  intro n
  induction n with
  | zero =>
    intro x2 H locs ls hx
    exact absurd hx (fun h => lpi_no h)
  | succ n ih =>
    intro x2 H locs ls hx hi hl hP hS hg
    refine lv_iload_n C.1 C.2.1 d_PO_indexOf_2 rfl (lv_at hl 2 rfl) ?_
    refine lv_aload_n C.1 C.2.1 d_PO_indexOf_3 rfl (lv_at hl 0 rfl) ?_
    refine xget C hP o_PO rfl c_PO (k := 1) (v := .int (st 5 1 0)) (by decide) wg_97 rfl d_PO_indexOf_4 ?_
    refine lv_icmp_ge (tgt := 31) C.1 C.2.1 d_PO_indexOf_7 (by decide) (fun h1 => ?_) (fun h1 => ?_)
    · refine lv_iconst (v := (-1)) C.1 C.2.1 d_PO_indexOf_31 (by decide) ?_
      exact xri C hlk hr hP hS d_PO_indexOf_32 ⟨by rw [g_PO_indexOf_2, if_pos h1] at hg; exact hg, rfl⟩
    · refine lv_aload_n C.1 C.2.1 d_PO_indexOf_10 rfl (lv_at hl 0 rfl) ?_
      refine xget C hP o_PO rfl c_PO (k := 0) (v := .ref (b + 6)) (by decide) wg_95 rfl d_PO_indexOf_11 ?_
      refine lv_iload_n C.1 C.2.1 d_PO_indexOf_14 rfl (lv_at hl 2 rfl) ?_
      refine xaald C hP o_sa rfl (E := R_ME) rfl (v := b + (7 + (st 6 x2.toNatClampNeg 0).toNatClampNeg)) (lpi_ix hx (lpi_c hx h1 hi.2.1) (by decide)) rfl d_PO_indexOf_15 ?_
      refine xgetN C hP (o_ME (hi.2.2 _ (xin_lt (lpi_ix hx (lpi_c hx h1 hi.2.1) (by decide))))) rfl c_ME (k := 0) (v := .int (st 7 0 (st 6 x2.toNatClampNeg 0).toNatClampNeg)) (by decide) wn_49 rfl d_PO_indexOf_16 ?_
      refine lv_iload_n C.1 C.2.1 d_PO_indexOf_19 rfl (lv_at hl 1 rfl) ?_
      refine lv_icmp_ne (tgt := 25) C.1 C.2.1 d_PO_indexOf_20 (by decide) (fun h2 => ?_) (fun h2 => ?_)
      · refine lv_iinc (v := (x2 + 1)) C.1 C.2.1 d_PO_indexOf_25 hl (k := 2) rfl rfl (by decide) rfl (fun ls hl => ?_)
        have hl : lv_has ls 3 [(2, .int (x2 + 1)), (0, .ref (b + 5)), (1, .int a1)] := hl
        refine lv_goto (tgt := 2) C.1 C.2.1 d_PO_indexOf_28 (by decide) ?_
        rw [g_PO_indexOf_2, if_neg h1, if_neg h2] at hg
        exact ih _ _ _ ls (lpi_nx hx (lpi_c hx h1 hi.2.1) (by decide)) hi (lv_sub hl [1, 2, 0] rfl) hP hS hg
      · refine lv_iload_n C.1 C.2.1 d_PO_indexOf_23 rfl (lv_at hl 2 rfl) ?_
        exact xri C hlk hr hP hS d_PO_indexOf_24 ⟨by rw [g_PO_indexOf_2, if_neg h1, if_pos h2] at hg; exact hg, rfl⟩
def f_PO_indexOf (st : XS) (a1 : Int32) : Int32 :=
  (g_PO_indexOf_2 65 st a1 0)
set_option maxRecDepth 100000 in
set_option maxHeartbeats 4000000 in
theorem k_PO_indexOf (l : Launch) (D : va_G) (cA : Nat → ClassId) (b : Nat) (st : XS) (a1 : Int32) (hp : pok st) : xMi cw D cA b l y_PO_indexOf (Cond.code y_PO_indexOf b_PO_indexOf 3 (some .int)) { frames := 0, cells := 0, slots := 0, locals := 0 } st [.ref (b + 5), .int a1] (f_PO_indexOf st a1) st := by
  refine xMi_of rfl (by decide) (Nat.le_of_ble_eq_true rfl) ?_
  intro p e s m below meth c ls C hlk hr hml hl hP hS
  have hl : lv_has ls 3 [(0, .ref (b + 5)), (1, .int a1)] := hl
  refine lv_iconst (v := 0) C.1 C.2.1 d_PO_indexOf_0 (by decide) ?_
  refine lv_istore_n C.1 C.2.1 d_PO_indexOf_1 rfl hl (by decide) rfl (fun ls hl => ?_)
  have hl : lv_has ls 3 [(2, .int 0), (0, .ref (b + 5)), (1, .int a1)] := hl
  exact w_PO_indexOf_2 l D cA b a1 st C hlk hr hml 65 0 _ _ ls lpi_st hp (lv_sub hl [1, 2, 0] rfl) hP hS (by rw [f_PO_indexOf])

def g_PO_remove_11 : Nat → XS → Int32 → Int32 → Int32 → XS
  | 0, st, a1, x2, x3 => st
  | n + 1, st, a1, x2, x3 =>
    if (st 5 1 0) ≤ x3 then st
    else (g_PO_remove_11 n (xu st 6 ((x3 - 1)).toNatClampNeg 0 (st 6 x3.toNatClampNeg 0)) a1 x2 (x3 + 1))
set_option maxRecDepth 100000 in
set_option maxHeartbeats 4000000 in
theorem w_PO_remove_11 (l : Launch) (D : va_G) (cA : Nat → ClassId) (b : Nat) (a1 : Int32) (x2 : Int32) (hx2 : x2.toNatClampNeg < 65) {p : Program} {e : Env} {s : State} {m : MethodId} {below : List Frame} {meth : Method} {c : Code} {Q : State → Prop} (C : xCx p s m ([.ref (b + 5), .int a1] : List Value).toArray c b_PO_remove y_PO_remove.cls D cA) (hml : c.maxLocals = 4) {stE : XS} (kx : ∀ (H1 : Heap) (locs1 : List Loc) (ls1 : Array Slot), xP cw D cA b stE H1 → va_S (xA cw b) s.heap H1 locs1 → lv_has ls1 4 [(0, .ref (b + 5)), (1, .int a1), (2, .ref (b + (7 + x2.toNatClampNeg)))] → W p l e { frames := 0, cells := 0, slots := 0, locals := 0 } s m ([.ref (b + 5), .int a1] : List Value).toArray below meth c H1 locs1 0 0 Q (F0 m 39 ls1 [])) : ∀ (n : Nat) (st : XS) (x3 : Int32) (H : Heap) (locs : List Loc) (ls : Array Slot), lpr n x3 → pok st → lv_has ls 4 [(0, .ref (b + 5)), (1, .int a1), (2, .ref (b + (7 + x2.toNatClampNeg))), (3, .int x3)] → xP cw D cA b st H → va_S (xA cw b) s.heap H locs → g_PO_remove_11 n st a1 x2 x3 = stE → W p l e { frames := 0, cells := 0, slots := 0, locals := 0 } s m ([.ref (b + 5), .int a1] : List Value).toArray below meth c H locs 0 0 Q (F0 m 11 ls []) := by
  intro n
  induction n with
  | zero =>
    intro st x3 H locs ls hx
    exact absurd hx (fun h => lpr_no h)
  | succ n ih =>
    intro st x3 H locs ls hx hi hl hP hS hg
    refine lv_iload_n C.1 C.2.1 d_PO_remove_11 rfl (lv_at hl 3 rfl) ?_
    refine lv_aload_n C.1 C.2.1 d_PO_remove_12 rfl (lv_at hl 0 rfl) ?_
    refine xget C hP o_PO rfl c_PO (k := 1) (v := .int (st 5 1 0)) (by decide) wg_97 rfl d_PO_remove_13 ?_
    refine lv_icmp_ge (tgt := 39) C.1 C.2.1 d_PO_remove_16 (by decide) (fun h1 => ?_) (fun h1 => ?_)
    · rw [g_PO_remove_11, if_pos h1] at hg
      subst hg
      exact kx _ _ ls hP hS (lv_sub hl [0, 1, 2] rfl)
    · refine lv_aload_n C.1 C.2.1 d_PO_remove_19 rfl (lv_at hl 0 rfl) ?_
      refine xget C hP o_PO rfl c_PO (k := 0) (v := .ref (b + 6)) (by decide) wg_95 rfl d_PO_remove_20 ?_
      refine lv_iload_n C.1 C.2.1 d_PO_remove_23 rfl (lv_at hl 3 rfl) ?_
      refine lv_iconst (v := 1) C.1 C.2.1 d_PO_remove_24 (by decide) ?_
      refine lv_isub C.1 C.2.1 d_PO_remove_25 ?_
      refine lv_aload_n C.1 C.2.1 d_PO_remove_26 rfl (lv_at hl 0 rfl) ?_
      refine xget C hP o_PO rfl c_PO (k := 0) (v := .ref (b + 6)) (by decide) wg_95 rfl d_PO_remove_27 ?_
      refine lv_iload_n C.1 C.2.1 d_PO_remove_30 rfl (lv_at hl 3 rfl) ?_
      refine xaald C hP o_sa rfl (E := R_ME) rfl (v := b + (7 + (st 6 x3.toNatClampNeg 0).toNatClampNeg)) (lpi_ix hx.1 (lpi_c hx.1 h1 hi.2.1) (by decide)) rfl d_PO_remove_31 ?_
      refine xaast cw_inj C hP hS o_sa rfl (E := R_ME) rfl (lpr_1 hx) (v := (st 6 x3.toNatClampNeg 0)) (o_ME (hi.2.2 _ (xin_lt (lpi_ix hx.1 (lpi_c hx.1 h1 hi.2.1) (by decide))))) rfl c_ME rfl d_PO_remove_32 (fun H locs hP hS => ?_)
      refine lv_iinc (v := (x3 + 1)) C.1 C.2.1 d_PO_remove_33 hl (k := 3) rfl rfl (by decide) rfl (fun ls hl => ?_)
      have hl : lv_has ls 4 [(3, .int (x3 + 1)), (0, .ref (b + 5)), (1, .int a1), (2, .ref (b + (7 + x2.toNatClampNeg)))] := hl
      refine lv_goto (tgt := 11) C.1 C.2.1 d_PO_remove_36 (by decide) ?_
      rw [g_PO_remove_11, if_neg h1] at hg
      exact ih _ _ _ _ ls (lpr_nx hx (lpi_c hx.1 h1 hi.2.1)) (pok_s hi (hi.2.2 _ (xin_lt (lpi_ix hx.1 (lpi_c hx.1 h1 hi.2.1) (by decide))))) (lv_sub hl [1, 2, 3, 0] rfl) hP hS hg
theorem fr_PO_remove_11 {a' k' i' : Nat} (h : (a', k') ∉ ([] : List (Nat × Nat))) (h2 : a' ∉ ([6] : List Nat)) : ∀ (n : Nat) (st : XS) (a1 : Int32) (x2 : Int32) (x3 : Int32), (g_PO_remove_11 n st a1 x2 x3) a' k' i' = st a' k' i' := by
  intro n
  induction n with
  | zero => intro st a1 x2 x3; rfl
  | succ n ih =>
    intro st a1 x2 x3
    unfold g_PO_remove_11
    repeat' split
    all_goals (try dsimp only)
    all_goals (repeat (first | with_reducible rfl | rw [xu_f (fun e => h (by rw [e]; decide))] | rw [xu_a (fun e => h2 (by rw [e]; decide))] | rw [ih]))
def f_PO_remove (st : XS) (a1 : Int32) : XS :=
  (xu (xu (g_PO_remove_11 65 st a1 (st 6 a1.toNatClampNeg 0) (a1 + 1)) 5 1 0 ((st 5 1 0) - 1)) 6 (((st 5 1 0) - 1)).toNatClampNeg 0 (st 6 a1.toNatClampNeg 0))
set_option maxRecDepth 100000 in
set_option maxHeartbeats 4000000 in
theorem fr_PO_remove {st : XS} {a1 : Int32} {a' k' i' : Nat} (h : (a', k') ∉ ([(5, 1)] : List (Nat × Nat))) (h2 : a' ∉ ([6] : List Nat)) : (f_PO_remove st a1) a' k' i' = st a' k' i' := by
  unfold f_PO_remove
  repeat' split
  all_goals (try dsimp only)
  all_goals (repeat (first | with_reducible rfl | rw [xu_f (fun e => h (by rw [e]; decide))] | rw [xu_a (fun e => h2 (by rw [e]; decide))] | rw [fr_PO_remove_11 (fun q => h ((by decide : ∀ z ∈ ([] : List (Nat × Nat)), z ∈ ([(5, 1)] : List (Nat × Nat))) _ q)) (fun q => h2 ((by decide : ∀ z ∈ ([6] : List Nat), z ∈ ([6] : List Nat)) _ q))]))
set_option maxRecDepth 100000 in
set_option maxHeartbeats 4000000 in
theorem k_PO_remove (l : Launch) (D : va_G) (cA : Nat → ClassId) (b : Nat) (st : XS) (a1 : Int32) (hp : pok st) (h0 : 0 ≤ a1.toInt) (h1 : a1.toInt < (st 5 1 0).toInt) : xMv cw D cA b l y_PO_remove (Cond.code y_PO_remove b_PO_remove 4 none) { frames := 0, cells := 0, slots := 0, locals := 0 } st [.ref (b + 5), .int a1] (f_PO_remove st a1) := by
  refine xMv_of rfl (by decide) (Nat.le_of_ble_eq_true rfl) ?_
  intro p e s m below meth c ls C hlk hr hml hl hP hS
  have hl : lv_has ls 4 [(0, .ref (b + 5)), (1, .int a1)] := hl
  refine lv_aload_n C.1 C.2.1 d_PO_remove_0 rfl (lv_at hl 0 rfl) ?_
  refine xget C hP o_PO rfl c_PO (k := 0) (v := .ref (b + 6)) (by decide) wg_95 rfl d_PO_remove_1 ?_
  refine lv_iload_n C.1 C.2.1 d_PO_remove_4 rfl (lv_at hl 1 rfl) ?_
  refine xaald C hP o_sa rfl (E := R_ME) rfl (v := b + (7 + (st 6 a1.toNatClampNeg 0).toNatClampNeg)) (rm_in hp h0 h1) rfl d_PO_remove_5 ?_
  refine lv_astore_n C.1 C.2.1 d_PO_remove_6 rfl hl (by decide) rfl (fun ls hl => ?_)
  have hl : lv_has ls 4 [(2, .ref (b + (7 + (st 6 a1.toNatClampNeg 0).toNatClampNeg))), (0, .ref (b + 5)), (1, .int a1)] := hl
  refine lv_iload_n C.1 C.2.1 d_PO_remove_7 rfl (lv_at hl 2 rfl) ?_
  refine lv_iconst (v := 1) C.1 C.2.1 d_PO_remove_8 (by decide) ?_
  refine lv_iadd C.1 C.2.1 d_PO_remove_9 ?_
  refine lv_istore_n C.1 C.2.1 d_PO_remove_10 rfl hl (by decide) rfl (fun ls hl => ?_)
  have hl : lv_has ls 4 [(3, .int (a1 + 1)), (2, .ref (b + (7 + (st 6 a1.toNatClampNeg 0).toNatClampNeg))), (0, .ref (b + 5)), (1, .int a1)] := hl
  refine w_PO_remove_11 l D cA b a1 (st 6 a1.toNatClampNeg 0) (hp.2.2 _ (xin_lt (rm_in hp h0 h1))) C hml  (fun H locs ls hP hS hl => ?_) 65 st (a1 + 1) _ _ ls (lpr_st hp h0 h1) hp (lv_sub hl [2, 3, 1, 0] rfl) hP hS rfl
  have hl : lv_has ls 4 [(0, .ref (b + 5)), (1, .int a1), (2, .ref (b + (7 + (st 6 a1.toNatClampNeg 0).toNatClampNeg)))] := hl
  refine lv_aload_n C.1 C.2.1 d_PO_remove_39 rfl (lv_at hl 0 rfl) ?_
  refine lv_dup C.1 C.2.1 d_PO_remove_40 rfl ?_
  refine xget C hP o_PO rfl c_PO (k := 1) (v := .int (st 5 1 0)) (by decide) wg_97 (congrArg Value.int (fr_PO_remove_11 (by decide) (by decide) _ _ _ _ _)) d_PO_remove_41 ?_
  refine lv_iconst (v := 1) C.1 C.2.1 d_PO_remove_44 (by decide) ?_
  refine lv_isub C.1 C.2.1 d_PO_remove_45 ?_
  refine xput cw_inj C hP hS o_PO rfl c_PO (k := 1) (x := ((st 5 1 0) - 1)) (by decide) wg_97 rfl rfl rfl rfl d_PO_remove_46 (fun H locs hP hS => ?_)
  refine lv_aload_n C.1 C.2.1 d_PO_remove_49 rfl (lv_at hl 0 rfl) ?_
  refine xget C hP o_PO rfl c_PO (k := 0) (v := .ref (b + 6)) (by decide) wg_95 rfl d_PO_remove_50 ?_
  refine lv_aload_n C.1 C.2.1 d_PO_remove_53 rfl (lv_at hl 0 rfl) ?_
  refine xget C hP o_PO rfl c_PO (k := 1) (v := .int ((st 5 1 0) - 1)) (by decide) wg_97 (congrArg Value.int xu_s) d_PO_remove_54 ?_
  refine lv_aload_n C.1 C.2.1 d_PO_remove_57 rfl (lv_at hl 2 rfl) ?_
  refine xaast cw_inj C hP hS o_sa rfl (E := R_ME) rfl (rm_last hp h0 h1) (v := (st 6 a1.toNatClampNeg 0)) (o_ME (hp.2.2 _ (xin_lt (rm_in hp h0 h1)))) rfl c_ME rfl d_PO_remove_58 (fun H locs hP hS => ?_)
  exact xrv C hlk hr hP hS d_PO_remove_59 (by rw [f_PO_remove])
