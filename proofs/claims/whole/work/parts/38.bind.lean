def g_MO_bind_41 : Nat → XS → Int32 → Int32 → Int32 → Int32 → Int32
  | 0, st, a1, a2, c3, x4 => c3
  | n + 1, st, a1, a2, c3, x4 =>
    if x4 < 0 then c3
    else if (st 2 ((x4 / 4)).toNatClampNeg 0) = 2 then (if (st 6 ((x4 / 4)).toNatClampNeg 0) = 0 then (g_MO_bind_41 n st a1 a2 c3 (x4 + (-1)))
      else if (st 3 ((x4 / 4)).toNatClampNeg 0) = a1 then (if (st 5 ((x4 / 4)).toNatClampNeg 0) ≤ (x4 - x4 / 4 * 4) then (g_MO_bind_41 n st a1 a2 c3 (x4 + (-1)))
        else if (st 16 x4.toNatClampNeg 0) = a2 then (g_MO_bind_41 n st a1 a2 x4 (x4 + (-1)))
        else (g_MO_bind_41 n st a1 a2 c3 (x4 + (-1))))
      else (g_MO_bind_41 n st a1 a2 c3 (x4 + (-1))))
    else (g_MO_bind_41 n st a1 a2 c3 (x4 + (-1)))
set_option maxRecDepth 100000 in
set_option maxHeartbeats 4000000 in
theorem w_MO_bind_41 (l : Launch) (D : va_G) (cA : Nat → ClassId) (b : Nat) (a1 : Int32) (a2 : Int32) {p : Program} {e : Env} {s : State} {m : MethodId} {below : List Frame} {meth : Method} {c : Code} {Q : State → Prop} (C : xCx p s m ([.ref (b + 0), .int a1, .int a2] : List Value).toArray c b_MO_bind y_MO_bind.cls D cA) (hml : c.maxLocals = 6) (st : XS) {ec3 : Int32} (kx : ∀ (H1 : Heap) (locs1 : List Loc) (ls1 : Array Slot), xP mw D cA b st H1 → va_S (xA mw b) s.heap H1 locs1 → lv_has ls1 6 [(0, .ref (b + 0)), (1, .int a1), (2, .int a2), (3, .int ec3)] → W p l e { frames := 1, cells := 0, slots := 0, locals := 20 } s m ([.ref (b + 0), .int a1, .int a2] : List Value).toArray below meth c H1 locs1 0 0 Q (F0 m 122 ls1 [])) : ∀ (n : Nat) (c3 x4 : Int32) (H : Heap) (locs : List Loc) (ls : Array Slot), lpd n x4 → lv_has ls 6 [(0, .ref (b + 0)), (1, .int a1), (2, .int a2), (3, .int c3), (4, .int x4)] → xP mw D cA b st H → va_S (xA mw b) s.heap H locs → g_MO_bind_41 n st a1 a2 c3 x4 = ec3 → W p l e { frames := 1, cells := 0, slots := 0, locals := 20 } s m ([.ref (b + 0), .int a1, .int a2] : List Value).toArray below meth c H locs 0 0 Q (F0 m 41 ls []) := by
  intro n
  induction n with
  | zero =>
    intro c3 x4 H locs ls hx
    exact absurd hx (fun h => lpd_no h)
  | succ n ih =>
    intro c3 x4 H locs ls hx hl hP hS hg
    refine lv_iload C.1 C.2.1 d_MO_bind_41 (lv_at hl 4 rfl) ?_
    refine lv_if_lt (tgt := 122) C.1 C.2.1 d_MO_bind_43 (by decide) (fun h1 => ?_) (fun h1 => ?_)
    · rw [g_MO_bind_41, if_pos h1] at hg
      subst hg
      exact kx _ _ ls hP hS (lv_sub hl [0, 1, 2, 3] rfl)
    · refine lv_iload C.1 C.2.1 d_MO_bind_46 (lv_at hl 4 rfl) ?_
      refine lv_iconst (v := 4) C.1 C.2.1 d_MO_bind_48 (by decide) ?_
      refine lv_idiv C.1 C.2.1 d_MO_bind_49 (by decide) ?_
      refine lv_istore C.1 C.2.1 d_MO_bind_50 hl (by decide) rfl (fun ls hl => ?_)
      have hl : lv_has ls 6 [(5, .int (x4 / 4)), (0, .ref (b + 0)), (1, .int a1), (2, .int a2), (3, .int c3), (4, .int x4)] := hl
      refine lv_aload_n C.1 C.2.1 d_MO_bind_52 rfl (lv_at hl 1 rfl) ?_
      refine xget C hP o_MO rfl c_MO (k := 5) (v := .ref (b + 2)) (by decide) wg_882 rfl d_MO_bind_53 ?_
      refine lv_iload C.1 C.2.1 d_MO_bind_56 (lv_at hl 0 rfl) ?_
      refine xiald C hP om_2 rfl (v := (st 2 ((x4 / 4)).toNatClampNeg 0)) (lpd_8 hx h1) rfl d_MO_bind_58 ?_
      refine lv_iconst (v := 2) C.1 C.2.1 d_MO_bind_59 (by decide) ?_
      refine lv_icmp_ne (tgt := 114) C.1 C.2.1 d_MO_bind_60 (by decide) (fun h2 => ?_) (fun h2 => ?_)
      · refine lv_iload_n C.1 C.2.1 d_MO_bind_114 rfl (lv_at hl 4 rfl) ?_
        refine lv_istore_n C.1 C.2.1 d_MO_bind_115 rfl hl (by decide) rfl (fun ls hl => ?_)
        have hl : lv_has ls 6 [(3, .int c3), (5, .int (x4 / 4)), (0, .ref (b + 0)), (1, .int a1), (2, .int a2), (4, .int x4)] := hl
        refine lv_iinc (v := (x4 + (-1))) C.1 C.2.1 d_MO_bind_116 hl (k := 5) rfl rfl (by decide) rfl (fun ls hl => ?_)
        have hl : lv_has ls 6 [(4, .int (x4 + (-1))), (3, .int c3), (5, .int (x4 / 4)), (0, .ref (b + 0)), (1, .int a1), (2, .int a2)] := hl
        refine lv_goto (tgt := 41) C.1 C.2.1 d_MO_bind_119 (by decide) ?_
        rw [g_MO_bind_41, if_neg h1, if_neg h2] at hg
        exact ih _ _ _ _ ls (lpd_nx hx h1) (lv_sub hl [3, 4, 5, 1, 0] rfl) hP hS hg
      · refine lv_aload_n C.1 C.2.1 d_MO_bind_63 rfl (lv_at hl 1 rfl) ?_
        refine xget C hP o_MO rfl c_MO (k := 9) (v := .ref (b + 6)) (by decide) wg_886 rfl d_MO_bind_64 ?_
        refine lv_iload C.1 C.2.1 d_MO_bind_67 (lv_at hl 0 rfl) ?_
        refine xiald C hP om_6 rfl (v := (st 6 ((x4 / 4)).toNatClampNeg 0)) (lpd_8 hx h1) rfl d_MO_bind_69 ?_
        refine lv_if_eq (tgt := 114) C.1 C.2.1 d_MO_bind_70 (by decide) (fun h3 => ?_) (fun h3 => ?_)
        · refine lv_iload_n C.1 C.2.1 d_MO_bind_114 rfl (lv_at hl 4 rfl) ?_
          refine lv_istore_n C.1 C.2.1 d_MO_bind_115 rfl hl (by decide) rfl (fun ls hl => ?_)
          have hl : lv_has ls 6 [(3, .int c3), (5, .int (x4 / 4)), (0, .ref (b + 0)), (1, .int a1), (2, .int a2), (4, .int x4)] := hl
          refine lv_iinc (v := (x4 + (-1))) C.1 C.2.1 d_MO_bind_116 hl (k := 5) rfl rfl (by decide) rfl (fun ls hl => ?_)
          have hl : lv_has ls 6 [(4, .int (x4 + (-1))), (3, .int c3), (5, .int (x4 / 4)), (0, .ref (b + 0)), (1, .int a1), (2, .int a2)] := hl
          refine lv_goto (tgt := 41) C.1 C.2.1 d_MO_bind_119 (by decide) ?_
          rw [g_MO_bind_41, if_neg h1, if_pos h2, if_pos h3] at hg
          exact ih _ _ _ _ ls (lpd_nx hx h1) (lv_sub hl [3, 4, 5, 1, 0] rfl) hP hS hg
        · refine lv_aload_n C.1 C.2.1 d_MO_bind_73 rfl (lv_at hl 1 rfl) ?_
          refine xget C hP o_MO rfl c_MO (k := 6) (v := .ref (b + 3)) (by decide) wg_883 rfl d_MO_bind_74 ?_
          refine lv_iload C.1 C.2.1 d_MO_bind_77 (lv_at hl 0 rfl) ?_
          refine xiald C hP om_3 rfl (v := (st 3 ((x4 / 4)).toNatClampNeg 0)) (lpd_8 hx h1) rfl d_MO_bind_79 ?_
          refine lv_iload_n C.1 C.2.1 d_MO_bind_80 rfl (lv_at hl 2 rfl) ?_
          refine lv_icmp_ne (tgt := 114) C.1 C.2.1 d_MO_bind_81 (by decide) (fun h4 => ?_) (fun h4 => ?_)
          · refine lv_iload_n C.1 C.2.1 d_MO_bind_114 rfl (lv_at hl 4 rfl) ?_
            refine lv_istore_n C.1 C.2.1 d_MO_bind_115 rfl hl (by decide) rfl (fun ls hl => ?_)
            have hl : lv_has ls 6 [(3, .int c3), (5, .int (x4 / 4)), (0, .ref (b + 0)), (1, .int a1), (2, .int a2), (4, .int x4)] := hl
            refine lv_iinc (v := (x4 + (-1))) C.1 C.2.1 d_MO_bind_116 hl (k := 5) rfl rfl (by decide) rfl (fun ls hl => ?_)
            have hl : lv_has ls 6 [(4, .int (x4 + (-1))), (3, .int c3), (5, .int (x4 / 4)), (0, .ref (b + 0)), (1, .int a1), (2, .int a2)] := hl
            refine lv_goto (tgt := 41) C.1 C.2.1 d_MO_bind_119 (by decide) ?_
            rw [g_MO_bind_41, if_neg h1, if_pos h2, if_neg h3, if_neg h4] at hg
            exact ih _ _ _ _ ls (lpd_nx hx h1) (lv_sub hl [3, 4, 5, 1, 0] rfl) hP hS hg
          · refine lv_iload C.1 C.2.1 d_MO_bind_84 (lv_at hl 5 rfl) ?_
            refine lv_iconst (v := 4) C.1 C.2.1 d_MO_bind_86 (by decide) ?_
            refine lv_irem C.1 C.2.1 d_MO_bind_87 (by decide) ?_
            refine lv_aload_n C.1 C.2.1 d_MO_bind_88 rfl (lv_at hl 1 rfl) ?_
            refine xget C hP o_MO rfl c_MO (k := 8) (v := .ref (b + 5)) (by decide) wg_885 rfl d_MO_bind_89 ?_
            refine lv_iload C.1 C.2.1 d_MO_bind_92 (lv_at hl 0 rfl) ?_
            refine xiald C hP om_5 rfl (v := (st 5 ((x4 / 4)).toNatClampNeg 0)) (lpd_8 hx h1) rfl d_MO_bind_94 ?_
            refine lv_icmp_ge (tgt := 114) C.1 C.2.1 d_MO_bind_95 (by decide) (fun h5 => ?_) (fun h5 => ?_)
            · refine lv_iload_n C.1 C.2.1 d_MO_bind_114 rfl (lv_at hl 4 rfl) ?_
              refine lv_istore_n C.1 C.2.1 d_MO_bind_115 rfl hl (by decide) rfl (fun ls hl => ?_)
              have hl : lv_has ls 6 [(3, .int c3), (5, .int (x4 / 4)), (0, .ref (b + 0)), (1, .int a1), (2, .int a2), (4, .int x4)] := hl
              refine lv_iinc (v := (x4 + (-1))) C.1 C.2.1 d_MO_bind_116 hl (k := 5) rfl rfl (by decide) rfl (fun ls hl => ?_)
              have hl : lv_has ls 6 [(4, .int (x4 + (-1))), (3, .int c3), (5, .int (x4 / 4)), (0, .ref (b + 0)), (1, .int a1), (2, .int a2)] := hl
              refine lv_goto (tgt := 41) C.1 C.2.1 d_MO_bind_119 (by decide) ?_
              rw [g_MO_bind_41, if_neg h1, if_pos h2, if_neg h3, if_pos h4, if_pos h5] at hg
              exact ih _ _ _ _ ls (lpd_nx hx h1) (lv_sub hl [3, 4, 5, 1, 0] rfl) hP hS hg
            · refine lv_aload_n C.1 C.2.1 d_MO_bind_98 rfl (lv_at hl 1 rfl) ?_
              refine xget C hP o_MO rfl c_MO (k := 19) (v := .ref (b + 16)) (by decide) wg_896 rfl d_MO_bind_99 ?_
              refine lv_iload C.1 C.2.1 d_MO_bind_102 (lv_at hl 5 rfl) ?_
              refine xiald C hP om_16 rfl (v := (st 16 x4.toNatClampNeg 0)) (lpd_32 hx h1) rfl d_MO_bind_104 ?_
              refine lv_iload_n C.1 C.2.1 d_MO_bind_105 rfl (lv_at hl 3 rfl) ?_
              refine lv_icmp_ne (tgt := 114) C.1 C.2.1 d_MO_bind_106 (by decide) (fun h6 => ?_) (fun h6 => ?_)
              · refine lv_iload_n C.1 C.2.1 d_MO_bind_114 rfl (lv_at hl 4 rfl) ?_
                refine lv_istore_n C.1 C.2.1 d_MO_bind_115 rfl hl (by decide) rfl (fun ls hl => ?_)
                have hl : lv_has ls 6 [(3, .int c3), (5, .int (x4 / 4)), (0, .ref (b + 0)), (1, .int a1), (2, .int a2), (4, .int x4)] := hl
                refine lv_iinc (v := (x4 + (-1))) C.1 C.2.1 d_MO_bind_116 hl (k := 5) rfl rfl (by decide) rfl (fun ls hl => ?_)
                have hl : lv_has ls 6 [(4, .int (x4 + (-1))), (3, .int c3), (5, .int (x4 / 4)), (0, .ref (b + 0)), (1, .int a1), (2, .int a2)] := hl
                refine lv_goto (tgt := 41) C.1 C.2.1 d_MO_bind_119 (by decide) ?_
                rw [g_MO_bind_41, if_neg h1, if_pos h2, if_neg h3, if_pos h4, if_neg h5, if_neg h6] at hg
                exact ih _ _ _ _ ls (lpd_nx hx h1) (lv_sub hl [3, 4, 5, 1, 0] rfl) hP hS hg
              · refine lv_iload C.1 C.2.1 d_MO_bind_109 (lv_at hl 5 rfl) ?_
                refine lv_goto (tgt := 115) C.1 C.2.1 d_MO_bind_111 (by decide) ?_
                refine lv_istore_n C.1 C.2.1 d_MO_bind_115 rfl hl (by decide) rfl (fun ls hl => ?_)
                have hl : lv_has ls 6 [(3, .int x4), (5, .int (x4 / 4)), (0, .ref (b + 0)), (1, .int a1), (2, .int a2), (4, .int x4)] := hl
                refine lv_iinc (v := (x4 + (-1))) C.1 C.2.1 d_MO_bind_116 hl (k := 5) rfl rfl (by decide) rfl (fun ls hl => ?_)
                have hl : lv_has ls 6 [(4, .int (x4 + (-1))), (3, .int x4), (5, .int (x4 / 4)), (0, .ref (b + 0)), (1, .int a1), (2, .int a2)] := hl
                refine lv_goto (tgt := 41) C.1 C.2.1 d_MO_bind_119 (by decide) ?_
                rw [g_MO_bind_41, if_neg h1, if_pos h2, if_neg h3, if_pos h4, if_neg h5, if_pos h6] at hg
                exact ih _ _ _ _ ls (lpd_nx hx h1) (lv_sub hl [3, 4, 5, 1, 0] rfl) hP hS hg
theorem bd_g {st : XS} {a1 a2 : Int32} : ∀ (n : Nat) (c x : Int32), lpd n x → c.toInt ≤ 31 → (g_MO_bind_41 n st a1 a2 c x).toInt ≤ 31 := by
  intro n
  induction n with
  | zero => intro c x hx; exact absurd hx lpd_no
  | succ n ih =>
    intro c x hx hc
    unfold g_MO_bind_41
    split
    · exact hc
    · rename_i h1
      have hn := lpd_nx hx h1
      have h2 := hx.2.1
      repeat' split
      all_goals first | exact ih _ _ hn hc | exact ih _ _ hn h2
theorem bd_in {st : XS} {a1 a2 : Int32} (h : 0 ≤ g_MO_bind_41 33 st a1 a2 (-1) 31) : vp_in (g_MO_bind_41 33 st a1 a2 (-1) 31 / 4) 8 := div4 (i32_ge h) (bd_g _ _ _ lpd_st (by decide))
def f_MO_bind (st : XS) (a1 : Int32) (a2 : Int32) : XS × Int32 :=
  if (f_MO_isBed a1) = 0 then ((xu st 0 0 0 1), 0)
  else if a2 < 0 then ((xu st 0 0 0 1), 0)
  else if 16 ≤ a2 then ((xu st 0 0 0 1), 0)
  else if (st 0 48 0) = 16 then ((xu (xu st 0 0 0 0) 0 0 0 2), 0)
  else if 0 ≤ (g_MO_bind_41 33 (xu st 0 0 0 0) a1 a2 (-1) 31) then ((xu (xu (xu (xu (xu (xu (xu st 0 0 0 0) 0 0 0 0) 44 ((st 0 48 0)).toNatClampNeg 0 (g_MO_bind_41 33 (xu st 0 0 0 0) a1 a2 (-1) 31)) 45 ((st 0 48 0)).toNatClampNeg 0 (st 4 (((g_MO_bind_41 33 (xu st 0 0 0 0) a1 a2 (-1) 31) / 4)).toNatClampNeg 0)) 46 ((st 0 48 0)).toNatClampNeg 0 (st 6 (((g_MO_bind_41 33 (xu st 0 0 0 0) a1 a2 (-1) 31) / 4)).toNatClampNeg 0)) 47 ((st 0 48 0)).toNatClampNeg 0 (-1)) 0 48 0 ((st 0 48 0) + 1)), (((st 0 48 0) + 1) - 1))
  else ((xu (xu st 0 0 0 0) 0 0 0 2), 0)
set_option maxRecDepth 100000 in
set_option maxHeartbeats 4000000 in
theorem fr_MO_bind {st : XS} {a1 : Int32} {a2 : Int32} {a' k' i' : Nat} (h : (a', k') ∉ ([(0, 0), (0, 48)] : List (Nat × Nat))) (h2 : a' ∉ ([44, 45, 46, 47] : List Nat)) : (f_MO_bind st a1 a2).1 a' k' i' = st a' k' i' := by
  unfold f_MO_bind
  repeat' split
  all_goals (try dsimp only)
  all_goals (repeat (first | with_reducible rfl | rw [xu_f (fun e => h (by rw [e]; decide))] | rw [xu_a (fun e => h2 (by rw [e]; decide))]))
theorem p_MO_bind {st : XS} {a1 : Int32} {a2 : Int32} (h : qok st) : qok (f_MO_bind st a1 a2).1 := qok_of h (fr_MO_bind (by decide) (by decide))
set_option maxRecDepth 100000 in
set_option maxHeartbeats 4000000 in
theorem k_MO_bind (l : Launch) (D : va_G) (cA : Nat → ClassId) (b : Nat) (st : XS) (a1 : Int32) (a2 : Int32) (hh : 0 ≤ (st 0 48 0).toInt ∧ (st 0 48 0).toInt ≤ (16 : Nat)) : xMi mw D cA b l y_MO_bind (Cond.code y_MO_bind b_MO_bind 6 (some .int)) { frames := 1, cells := 0, slots := 0, locals := 20 } st [.ref (b + 0), .int a1, .int a2] (f_MO_bind st a1 a2).2 (f_MO_bind st a1 a2).1 := by
  refine xMi_of rfl (by decide) (Nat.le_of_ble_eq_true rfl) ?_
  intro p e s m below meth c ls C hlk hr hml hl hP hS
  have hl : lv_has ls 6 [(0, .ref (b + 0)), (1, .int a1), (2, .int a2)] := hl
  refine lv_aload_n C.1 C.2.1 d_MO_bind_0 rfl (lv_at hl 0 rfl) ?_
  refine lv_iload_n C.1 C.2.1 d_MO_bind_1 rfl (lv_at hl 1 rfl) ?_
  refine xcSi (rest := [.ref (b + 0)]) C hml hl.1 (k_MO_isBed l D cA b st a1) q_MO_isBed rfl rfl wg_1076 wg_1077 ⟨Nat.le_of_ble_eq_true rfl, Nat.le_of_ble_eq_true rfl⟩ hP hS rfl (Nat.le_of_ble_eq_true rfl) d_MO_bind_2 rfl (fun H locs hP hS => ?_)
  refine lv_if_eq (tgt := 22) C.1 C.2.1 d_MO_bind_5 (by decide) (fun h1 => ?_) (fun h1 => ?_)
  · refine lv_iconst (v := 1) C.1 C.2.1 d_MO_bind_22 (by decide) ?_
    refine xput mw_inj C hP hS o_MO rfl c_MO (k := 0) (x := 1) (by decide) wg_877 rfl rfl rfl rfl d_MO_bind_23 (fun H locs hP hS => ?_)
    refine lv_aload_n C.1 C.2.1 d_MO_bind_26 rfl (lv_at hl 0 rfl) ?_
    refine xget C hP o_MO rfl c_MO (k := 0) (v := .int 1) (by decide) wg_877 (congrArg Value.int xu_s) d_MO_bind_27 ?_
    refine lv_if_le (tgt := 35) C.1 C.2.1 d_MO_bind_30 (by decide) (fun h => absurd h (by decide)) (fun _ => ?_)
    refine lv_iconst (v := 0) C.1 C.2.1 d_MO_bind_33 (by decide) ?_
    exact xri C hlk hr hP hS d_MO_bind_34 ⟨by rw [f_MO_bind, if_pos h1], by rw [f_MO_bind, if_pos h1]⟩
  · refine lv_iload_n C.1 C.2.1 d_MO_bind_8 rfl (lv_at hl 2 rfl) ?_
    refine lv_if_lt (tgt := 22) C.1 C.2.1 d_MO_bind_9 (by decide) (fun h2 => ?_) (fun h2 => ?_)
    · refine lv_iconst (v := 1) C.1 C.2.1 d_MO_bind_22 (by decide) ?_
      refine xput mw_inj C hP hS o_MO rfl c_MO (k := 0) (x := 1) (by decide) wg_877 rfl rfl rfl rfl d_MO_bind_23 (fun H locs hP hS => ?_)
      refine lv_aload_n C.1 C.2.1 d_MO_bind_26 rfl (lv_at hl 0 rfl) ?_
      refine xget C hP o_MO rfl c_MO (k := 0) (v := .int 1) (by decide) wg_877 (congrArg Value.int xu_s) d_MO_bind_27 ?_
      refine lv_if_le (tgt := 35) C.1 C.2.1 d_MO_bind_30 (by decide) (fun h => absurd h (by decide)) (fun _ => ?_)
      refine lv_iconst (v := 0) C.1 C.2.1 d_MO_bind_33 (by decide) ?_
      exact xri C hlk hr hP hS d_MO_bind_34 ⟨by rw [f_MO_bind, if_neg h1, if_pos h2], by rw [f_MO_bind, if_neg h1, if_pos h2]⟩
    · refine lv_iload_n C.1 C.2.1 d_MO_bind_12 rfl (lv_at hl 2 rfl) ?_
      refine lv_bipush (v := 16) C.1 C.2.1 d_MO_bind_13 (by decide) ?_
      refine lv_icmp_ge (tgt := 22) C.1 C.2.1 d_MO_bind_15 (by decide) (fun h3 => ?_) (fun h3 => ?_)
      · refine lv_iconst (v := 1) C.1 C.2.1 d_MO_bind_22 (by decide) ?_
        refine xput mw_inj C hP hS o_MO rfl c_MO (k := 0) (x := 1) (by decide) wg_877 rfl rfl rfl rfl d_MO_bind_23 (fun H locs hP hS => ?_)
        refine lv_aload_n C.1 C.2.1 d_MO_bind_26 rfl (lv_at hl 0 rfl) ?_
        refine xget C hP o_MO rfl c_MO (k := 0) (v := .int 1) (by decide) wg_877 (congrArg Value.int xu_s) d_MO_bind_27 ?_
        refine lv_if_le (tgt := 35) C.1 C.2.1 d_MO_bind_30 (by decide) (fun h => absurd h (by decide)) (fun _ => ?_)
        refine lv_iconst (v := 0) C.1 C.2.1 d_MO_bind_33 (by decide) ?_
        exact xri C hlk hr hP hS d_MO_bind_34 ⟨by rw [f_MO_bind, if_neg h1, if_neg h2, if_pos h3], by rw [f_MO_bind, if_neg h1, if_neg h2, if_pos h3]⟩
      · refine lv_iconst (v := 0) C.1 C.2.1 d_MO_bind_18 (by decide) ?_
        refine lv_goto (tgt := 23) C.1 C.2.1 d_MO_bind_19 (by decide) ?_
        refine xput mw_inj C hP hS o_MO rfl c_MO (k := 0) (x := 0) (by decide) wg_877 rfl rfl rfl rfl d_MO_bind_23 (fun H locs hP hS => ?_)
        refine lv_aload_n C.1 C.2.1 d_MO_bind_26 rfl (lv_at hl 0 rfl) ?_
        refine xget C hP o_MO rfl c_MO (k := 0) (v := .int 0) (by decide) wg_877 (congrArg Value.int xu_s) d_MO_bind_27 ?_
        refine lv_if_le (tgt := 35) C.1 C.2.1 d_MO_bind_30 (by decide) (fun _ => ?_) (fun h => absurd (by decide) h)
        refine lv_iconst (v := (-1)) C.1 C.2.1 d_MO_bind_35 (by decide) ?_
        refine lv_istore_n C.1 C.2.1 d_MO_bind_36 rfl hl (by decide) rfl (fun ls hl => ?_)
        have hl : lv_has ls 6 [(3, .int (-1)), (0, .ref (b + 0)), (1, .int a1), (2, .int a2)] := hl
        refine lv_bipush (v := 31) C.1 C.2.1 d_MO_bind_37 (by decide) ?_
        refine lv_istore C.1 C.2.1 d_MO_bind_39 hl (by decide) rfl (fun ls hl => ?_)
        have hl : lv_has ls 6 [(4, .int 31), (3, .int (-1)), (0, .ref (b + 0)), (1, .int a1), (2, .int a2)] := hl
        refine w_MO_bind_41 l D cA b a1 a2 C hml (xu st 0 0 0 0) (fun H locs ls hP hS hl => ?_) 33 (-1) 31 _ _ ls lpd_st (lv_sub hl [2, 3, 4, 1, 0] rfl) hP hS rfl
        have hl : lv_has ls 6 [(0, .ref (b + 0)), (1, .int a1), (2, .int a2), (3, .int (g_MO_bind_41 33 (xu st 0 0 0 0) a1 a2 (-1) 31))] := hl
        refine lv_aload_n C.1 C.2.1 d_MO_bind_122 rfl (lv_at hl 0 rfl) ?_
        refine lv_aload_n C.1 C.2.1 d_MO_bind_123 rfl (lv_at hl 0 rfl) ?_
        refine xget C hP o_MO rfl c_MO (k := 48) (v := .int (st 0 48 0)) (by decide) wg_925 (congrArg Value.int (xu_f (by decide))) d_MO_bind_124 ?_
        refine lv_bipush (v := 16) C.1 C.2.1 d_MO_bind_127 (by decide) ?_
        refine lv_icmp_eq (tgt := 136) C.1 C.2.1 d_MO_bind_129 (by decide) (fun h4 => ?_) (fun h4 => ?_)
        · refine lv_iconst (v := 2) C.1 C.2.1 d_MO_bind_136 (by decide) ?_
          refine lv_goto (tgt := 141) C.1 C.2.1 d_MO_bind_137 (by decide) ?_
          refine xput mw_inj C hP hS o_MO rfl c_MO (k := 0) (x := 2) (by decide) wg_877 rfl rfl rfl rfl d_MO_bind_141 (fun H locs hP hS => ?_)
          refine lv_aload_n C.1 C.2.1 d_MO_bind_144 rfl (lv_at hl 0 rfl) ?_
          refine xget C hP o_MO rfl c_MO (k := 0) (v := .int 2) (by decide) wg_877 (congrArg Value.int xu_s) d_MO_bind_145 ?_
          refine lv_if_le (tgt := 153) C.1 C.2.1 d_MO_bind_148 (by decide) (fun h => absurd h (by decide)) (fun _ => ?_)
          refine lv_iconst (v := 0) C.1 C.2.1 d_MO_bind_151 (by decide) ?_
          exact xri C hlk hr hP hS d_MO_bind_152 ⟨by rw [f_MO_bind, if_neg h1, if_neg h2, if_neg h3, if_pos h4], by rw [f_MO_bind, if_neg h1, if_neg h2, if_neg h3, if_pos h4]⟩
        · refine lv_iload_n C.1 C.2.1 d_MO_bind_132 rfl (lv_at hl 3 rfl) ?_
          refine lv_if_ge (tgt := 140) C.1 C.2.1 d_MO_bind_133 (by decide) (fun h5 => ?_) (fun h5 => ?_)
          · refine lv_iconst (v := 0) C.1 C.2.1 d_MO_bind_140 (by decide) ?_
            refine xput mw_inj C hP hS o_MO rfl c_MO (k := 0) (x := 0) (by decide) wg_877 rfl rfl rfl rfl d_MO_bind_141 (fun H locs hP hS => ?_)
            refine lv_aload_n C.1 C.2.1 d_MO_bind_144 rfl (lv_at hl 0 rfl) ?_
            refine xget C hP o_MO rfl c_MO (k := 0) (v := .int 0) (by decide) wg_877 (congrArg Value.int xu_s) d_MO_bind_145 ?_
            refine lv_if_le (tgt := 153) C.1 C.2.1 d_MO_bind_148 (by decide) (fun _ => ?_) (fun h => absurd (by decide) h)
            refine lv_aload_n C.1 C.2.1 d_MO_bind_153 rfl (lv_at hl 0 rfl) ?_
            refine xget C hP o_MO rfl c_MO (k := 49) (v := .ref (b + 44)) (by decide) wg_926 rfl d_MO_bind_154 ?_
            refine lv_aload_n C.1 C.2.1 d_MO_bind_157 rfl (lv_at hl 0 rfl) ?_
            refine xget C hP o_MO rfl c_MO (k := 48) (v := .int (st 0 48 0)) (by decide) wg_925 (congrArg Value.int (Eq.trans (xu_f (by decide)) (xu_f (by decide)))) d_MO_bind_158 ?_
            refine lv_iload_n C.1 C.2.1 d_MO_bind_161 rfl (lv_at hl 3 rfl) ?_
            refine xiast mw_inj C hP hS om_44 rfl (hn_in hh h4) rfl d_MO_bind_162 (fun H locs hP hS => ?_)
            refine lv_aload_n C.1 C.2.1 d_MO_bind_163 rfl (lv_at hl 0 rfl) ?_
            refine xget C hP o_MO rfl c_MO (k := 50) (v := .ref (b + 45)) (by decide) wg_927 rfl d_MO_bind_164 ?_
            refine lv_aload_n C.1 C.2.1 d_MO_bind_167 rfl (lv_at hl 0 rfl) ?_
            refine xget C hP o_MO rfl c_MO (k := 48) (v := .int (st 0 48 0)) (by decide) wg_925 (congrArg Value.int (Eq.trans (xu_a (by decide)) (Eq.trans (xu_f (by decide)) (xu_f (by decide))))) d_MO_bind_168 ?_
            refine lv_aload_n C.1 C.2.1 d_MO_bind_171 rfl (lv_at hl 0 rfl) ?_
            refine xget C hP o_MO rfl c_MO (k := 7) (v := .ref (b + 4)) (by decide) wg_884 rfl d_MO_bind_172 ?_
            refine lv_iload_n C.1 C.2.1 d_MO_bind_175 rfl (lv_at hl 3 rfl) ?_
            refine lv_iconst (v := 4) C.1 C.2.1 d_MO_bind_176 (by decide) ?_
            refine lv_idiv C.1 C.2.1 d_MO_bind_177 (by decide) ?_
            refine xiald C hP om_4 rfl (v := (st 4 (((g_MO_bind_41 33 (xu st 0 0 0 0) a1 a2 (-1) 31) / 4)).toNatClampNeg 0)) (bd_in h5) (congrArg Value.int (Eq.trans (xu_a (by decide)) (Eq.trans (xu_a (by decide)) (xu_a (by decide))))) d_MO_bind_178 ?_
            refine xiast mw_inj C hP hS om_45 rfl (hn_in hh h4) rfl d_MO_bind_179 (fun H locs hP hS => ?_)
            refine lv_aload_n C.1 C.2.1 d_MO_bind_180 rfl (lv_at hl 0 rfl) ?_
            refine xget C hP o_MO rfl c_MO (k := 51) (v := .ref (b + 46)) (by decide) wg_928 rfl d_MO_bind_181 ?_
            refine lv_aload_n C.1 C.2.1 d_MO_bind_184 rfl (lv_at hl 0 rfl) ?_
            refine xget C hP o_MO rfl c_MO (k := 48) (v := .int (st 0 48 0)) (by decide) wg_925 (congrArg Value.int (Eq.trans (xu_a (by decide)) (Eq.trans (xu_a (by decide)) (Eq.trans (xu_f (by decide)) (xu_f (by decide)))))) d_MO_bind_185 ?_
            refine lv_aload_n C.1 C.2.1 d_MO_bind_188 rfl (lv_at hl 0 rfl) ?_
            refine xget C hP o_MO rfl c_MO (k := 9) (v := .ref (b + 6)) (by decide) wg_886 rfl d_MO_bind_189 ?_
            refine lv_iload_n C.1 C.2.1 d_MO_bind_192 rfl (lv_at hl 3 rfl) ?_
            refine lv_iconst (v := 4) C.1 C.2.1 d_MO_bind_193 (by decide) ?_
            refine lv_idiv C.1 C.2.1 d_MO_bind_194 (by decide) ?_
            refine xiald C hP om_6 rfl (v := (st 6 (((g_MO_bind_41 33 (xu st 0 0 0 0) a1 a2 (-1) 31) / 4)).toNatClampNeg 0)) (bd_in h5) (congrArg Value.int (Eq.trans (xu_a (by decide)) (Eq.trans (xu_a (by decide)) (Eq.trans (xu_a (by decide)) (xu_a (by decide)))))) d_MO_bind_195 ?_
            refine xiast mw_inj C hP hS om_46 rfl (hn_in hh h4) rfl d_MO_bind_196 (fun H locs hP hS => ?_)
            refine lv_aload_n C.1 C.2.1 d_MO_bind_197 rfl (lv_at hl 0 rfl) ?_
            refine xget C hP o_MO rfl c_MO (k := 52) (v := .ref (b + 47)) (by decide) wg_929 rfl d_MO_bind_198 ?_
            refine lv_aload_n C.1 C.2.1 d_MO_bind_201 rfl (lv_at hl 0 rfl) ?_
            refine xget C hP o_MO rfl c_MO (k := 48) (v := .int (st 0 48 0)) (by decide) wg_925 (congrArg Value.int (Eq.trans (xu_a (by decide)) (Eq.trans (xu_a (by decide)) (Eq.trans (xu_a (by decide)) (Eq.trans (xu_f (by decide)) (xu_f (by decide))))))) d_MO_bind_202 ?_
            refine lv_iconst (v := (-1)) C.1 C.2.1 d_MO_bind_205 (by decide) ?_
            refine xiast mw_inj C hP hS om_47 rfl (hn_in hh h4) rfl d_MO_bind_206 (fun H locs hP hS => ?_)
            refine lv_aload_n C.1 C.2.1 d_MO_bind_207 rfl (lv_at hl 0 rfl) ?_
            refine lv_dup C.1 C.2.1 d_MO_bind_208 rfl ?_
            refine xget C hP o_MO rfl c_MO (k := 48) (v := .int (st 0 48 0)) (by decide) wg_925 (congrArg Value.int (Eq.trans (xu_a (by decide)) (Eq.trans (xu_a (by decide)) (Eq.trans (xu_a (by decide)) (Eq.trans (xu_a (by decide)) (Eq.trans (xu_f (by decide)) (xu_f (by decide)))))))) d_MO_bind_209 ?_
            refine lv_iconst (v := 1) C.1 C.2.1 d_MO_bind_212 (by decide) ?_
            refine lv_iadd C.1 C.2.1 d_MO_bind_213 ?_
            refine xput mw_inj C hP hS o_MO rfl c_MO (k := 48) (x := ((st 0 48 0) + 1)) (by decide) wg_925 rfl rfl rfl rfl d_MO_bind_214 (fun H locs hP hS => ?_)
            refine lv_aload_n C.1 C.2.1 d_MO_bind_217 rfl (lv_at hl 0 rfl) ?_
            refine xget C hP o_MO rfl c_MO (k := 48) (v := .int ((st 0 48 0) + 1)) (by decide) wg_925 (congrArg Value.int xu_s) d_MO_bind_218 ?_
            refine lv_iconst (v := 1) C.1 C.2.1 d_MO_bind_221 (by decide) ?_
            refine lv_isub C.1 C.2.1 d_MO_bind_222 ?_
            exact xri C hlk hr hP hS d_MO_bind_223 ⟨by rw [f_MO_bind, if_neg h1, if_neg h2, if_neg h3, if_neg h4, if_pos h5], by rw [f_MO_bind, if_neg h1, if_neg h2, if_neg h3, if_neg h4, if_pos h5]⟩
          · refine lv_iconst (v := 2) C.1 C.2.1 d_MO_bind_136 (by decide) ?_
            refine lv_goto (tgt := 141) C.1 C.2.1 d_MO_bind_137 (by decide) ?_
            refine xput mw_inj C hP hS o_MO rfl c_MO (k := 0) (x := 2) (by decide) wg_877 rfl rfl rfl rfl d_MO_bind_141 (fun H locs hP hS => ?_)
            refine lv_aload_n C.1 C.2.1 d_MO_bind_144 rfl (lv_at hl 0 rfl) ?_
            refine xget C hP o_MO rfl c_MO (k := 0) (v := .int 2) (by decide) wg_877 (congrArg Value.int xu_s) d_MO_bind_145 ?_
            refine lv_if_le (tgt := 153) C.1 C.2.1 d_MO_bind_148 (by decide) (fun h => absurd h (by decide)) (fun _ => ?_)
            refine lv_iconst (v := 0) C.1 C.2.1 d_MO_bind_151 (by decide) ?_
            exact xri C hlk hr hP hS d_MO_bind_152 ⟨by rw [f_MO_bind, if_neg h1, if_neg h2, if_neg h3, if_neg h4, if_neg h5], by rw [f_MO_bind, if_neg h1, if_neg h2, if_neg h3, if_neg h4, if_neg h5]⟩
