def g_MO_settle_10 : Nat → XS → Int32 → Int32 → XS
  | 0, st, x1, x2 => st
  | n + 1, st, x1, x2 =>
    if (st 5 x1.toNatClampNeg 0) ≤ x2 then st
    else if (st 2 x1.toNatClampNeg 0) = 2 then (if (bz (st 30 (((4 * x1) + x2)).toNatClampNeg 0)) = 0 then (if (f_MO_isSo st ((4 * x1) + x2)) = 0 then (g_MO_settle_10 n st x1 (x2 + 1))
        else if ((st 0 1 0) - (f_MO_since st ((4 * x1) + x2))) < (st 22 (((4 * x1) + x2)).toNatClampNeg 0) then (g_MO_settle_10 n st x1 (x2 + 1))
        else (g_MO_settle_10 n (f_MO_send (xu (xu (xu st 30 (((4 * x1) + x2)).toNatClampNeg 0 1) 31 (((4 * x1) + x2)).toNatClampNeg 0 0) 32 (((4 * x1) + x2)).toNatClampNeg 0 (st 0 1 0)) 2 x1 x2 1 0) x1 (x2 + 1)))
      else if (f_MO_isSo st ((4 * x1) + x2)) = 0 then (if 1 < (st 20 (((4 * x1) + x2)).toNatClampNeg 0) then (g_MO_settle_10 n (f_MO_send (xu (xu st 30 (((4 * x1) + x2)).toNatClampNeg 0 0) 31 (((4 * x1) + x2)).toNatClampNeg 0 0) 2 x1 x2 0 0) x1 (x2 + 1))
        else if (bz (st 31 (((4 * x1) + x2)).toNatClampNeg 0)) = 0 then (g_MO_settle_10 n st x1 (x2 + 1))
        else (g_MO_settle_10 n (f_MO_send (xu (xu st 30 (((4 * x1) + x2)).toNatClampNeg 0 0) 31 (((4 * x1) + x2)).toNatClampNeg 0 0) 2 x1 x2 0 0) x1 (x2 + 1)))
      else (g_MO_settle_10 n st x1 (x2 + 1)))
    else st
set_option maxRecDepth 100000 in
set_option maxHeartbeats 4000000 in
theorem w_MO_settle_10 (l : Launch) (D : va_G) (cA : Nat → ClassId) (b : Nat) (x1 : Int32) (hx1 : vp_in x1 8) {p : Program} {e : Env} {s : State} {m : MethodId} {below : List Frame} {meth : Method} {c : Code} {Q : State → Prop} (C : xCx p s m ([.ref (b + 0)] : List Value).toArray c b_MO_settle y_MO_settle.cls D cA) (hml : c.maxLocals = 4) {stE : XS} (kx : ∀ (H1 : Heap) (locs1 : List Loc) (ls1 : Array Slot), xP mw D cA b stE H1 → va_S (xA mw b) s.heap H1 locs1 → lv_has ls1 4 [(0, .ref (b + 0)), (1, .int x1)] → W p l e { frames := 2, cells := 0, slots := 0, locals := 42 } s m ([.ref (b + 0)] : List Value).toArray below meth c H1 locs1 0 0 Q (F0 m 173 ls1 [])) : ∀ (n : Nat) (st : XS) (x2 : Int32) (H : Heap) (locs : List Loc) (ls : Array Slot), lpi 4 n x2 → qok st ∧ cok st → lv_has ls 4 [(0, .ref (b + 0)), (1, .int x1), (2, .int x2)] → xP mw D cA b st H → va_S (xA mw b) s.heap H locs → g_MO_settle_10 n st x1 x2 = stE → W p l e { frames := 2, cells := 0, slots := 0, locals := 42 } s m ([.ref (b + 0)] : List Value).toArray below meth c H locs 0 0 Q (F0 m 10 ls []) := by
  intro n
  induction n with
  | zero =>
    intro st x2 H locs ls hx
    exact absurd hx (fun h => lpi_no h)
  | succ n ih =>
    intro st x2 H locs ls hx hi hl hP hS hg
    refine lv_iload_n C.1 C.2.1 d_MO_settle_10 rfl (lv_at hl 2 rfl) ?_
    refine lv_aload_n C.1 C.2.1 d_MO_settle_11 rfl (lv_at hl 0 rfl) ?_
    refine xget C hP o_MO rfl c_MO (k := 8) (v := .ref (b + 5)) (by decide) wg_885 rfl d_MO_settle_12 ?_
    refine lv_iload_n C.1 C.2.1 d_MO_settle_15 rfl (lv_at hl 1 rfl) ?_
    refine xiald C hP om_5 rfl (v := (st 5 x1.toNatClampNeg 0)) hx1 rfl d_MO_settle_16 ?_
    refine lv_icmp_ge (tgt := 173) C.1 C.2.1 d_MO_settle_17 (by decide) (fun h1 => ?_) (fun h1 => ?_)
    · rw [g_MO_settle_10, if_pos h1] at hg
      subst hg
      exact kx _ _ ls hP hS (lv_sub hl [0, 1] rfl)
    · refine lv_aload_n C.1 C.2.1 d_MO_settle_20 rfl (lv_at hl 0 rfl) ?_
      refine xget C hP o_MO rfl c_MO (k := 5) (v := .ref (b + 2)) (by decide) wg_882 rfl d_MO_settle_21 ?_
      refine lv_iload_n C.1 C.2.1 d_MO_settle_24 rfl (lv_at hl 1 rfl) ?_
      refine xiald C hP om_2 rfl (v := (st 2 x1.toNatClampNeg 0)) hx1 rfl d_MO_settle_25 ?_
      refine lv_iconst (v := 2) C.1 C.2.1 d_MO_settle_26 (by decide) ?_
      refine lv_icmp_ne (tgt := 173) C.1 C.2.1 d_MO_settle_27 (by decide) (fun h2 => ?_) (fun h2 => ?_)
      · rw [g_MO_settle_10, if_neg h1, if_neg h2] at hg
        subst hg
        exact kx _ _ ls hP hS (lv_sub hl [0, 1] rfl)
      · refine lv_iconst (v := 4) C.1 C.2.1 d_MO_settle_30 (by decide) ?_
        refine lv_iload_n C.1 C.2.1 d_MO_settle_31 rfl (lv_at hl 1 rfl) ?_
        refine lv_imul C.1 C.2.1 d_MO_settle_32 ?_
        refine lv_iload_n C.1 C.2.1 d_MO_settle_33 rfl (lv_at hl 2 rfl) ?_
        refine lv_iadd C.1 C.2.1 d_MO_settle_34 ?_
        refine lv_istore_n C.1 C.2.1 d_MO_settle_35 rfl hl (by decide) rfl (fun ls hl => ?_)
        have hl : lv_has ls 4 [(3, .int ((4 * x1) + x2)), (0, .ref (b + 0)), (1, .int x1), (2, .int x2)] := hl
        refine lv_aload_n C.1 C.2.1 d_MO_settle_36 rfl (lv_at hl 1 rfl) ?_
        refine xget C hP o_MO rfl c_MO (k := 33) (v := .ref (b + 30)) (by decide) wg_910 rfl d_MO_settle_37 ?_
        refine lv_iload_n C.1 C.2.1 d_MO_settle_40 rfl (lv_at hl 0 rfl) ?_
        refine xzald C hP om_30 rfl (v := (bz (st 30 (((4 * x1) + x2)).toNatClampNeg 0))) (ix4 hx1 (lpi_ix hx (lpi_c hx h1 (hi.2 _ (xin_lt hx1)).2) (by decide))) rfl d_MO_settle_41 ?_
        refine lv_if_ne (tgt := 108) C.1 C.2.1 d_MO_settle_42 (by decide) (fun h3 => ?_) (fun h3 => ?_)
        · refine lv_aload_n C.1 C.2.1 d_MO_settle_108 rfl (lv_at hl 1 rfl) ?_
          refine xget C hP o_MO rfl c_MO (k := 33) (v := .ref (b + 30)) (by decide) wg_910 rfl d_MO_settle_109 ?_
          refine lv_iload_n C.1 C.2.1 d_MO_settle_112 rfl (lv_at hl 0 rfl) ?_
          refine xzald C hP om_30 rfl (v := (bz (st 30 (((4 * x1) + x2)).toNatClampNeg 0))) (ix4 hx1 (lpi_ix hx (lpi_c hx h1 (hi.2 _ (xin_lt hx1)).2) (by decide))) rfl d_MO_settle_113 ?_
          refine lv_if_eq (tgt := 167) C.1 C.2.1 d_MO_settle_114 (by decide) (fun h => absurd h h3) (fun _ => ?_)
          refine lv_aload_n C.1 C.2.1 d_MO_settle_117 rfl (lv_at hl 1 rfl) ?_
          refine lv_iload_n C.1 C.2.1 d_MO_settle_118 rfl (lv_at hl 0 rfl) ?_
          refine xcVi (rest := []) C hml hl.1 (k_MO_isSo l D cA b st ((4 * x1) + x2) (ix4 hx1 (lpi_ix hx (lpi_c hx h1 (hi.2 _ (xin_lt hx1)).2) (by decide)))) q_MO_isSo rfl rfl wg_1123 wg_1125 ws_57 ⟨Nat.le_of_ble_eq_true rfl, Nat.le_of_ble_eq_true rfl⟩ hP hS o_MO rfl c_MO rfl (Nat.le_of_ble_eq_true rfl) d_MO_settle_119 rfl (fun H locs hP hS => ?_)
          refine lv_if_ne (tgt := 167) C.1 C.2.1 d_MO_settle_122 (by decide) (fun h4 => ?_) (fun h4 => ?_)
          · refine lv_iinc (v := (x2 + 1)) C.1 C.2.1 d_MO_settle_167 hl (k := 3) rfl rfl (by decide) rfl (fun ls hl => ?_)
            have hl : lv_has ls 4 [(2, .int (x2 + 1)), (3, .int ((4 * x1) + x2)), (0, .ref (b + 0)), (1, .int x1)] := hl
            refine lv_goto (tgt := 10) C.1 C.2.1 d_MO_settle_170 (by decide) ?_
            rw [g_MO_settle_10, if_neg h1, if_pos h2, if_neg h3, if_neg h4] at hg
            exact ih _ _ _ _ ls (lpi_nx hx (lpi_c hx h1 (hi.2 _ (xin_lt hx1)).2) (by decide)) ⟨hi.1, hi.2⟩ (lv_sub hl [2, 3, 0] rfl) hP hS hg
          · refine lv_aload_n C.1 C.2.1 d_MO_settle_125 rfl (lv_at hl 1 rfl) ?_
            refine xget C hP o_MO rfl c_MO (k := 23) (v := .ref (b + 20)) (by decide) wg_900 rfl d_MO_settle_126 ?_
            refine lv_iload_n C.1 C.2.1 d_MO_settle_129 rfl (lv_at hl 0 rfl) ?_
            refine xiald C hP om_20 rfl (v := (st 20 (((4 * x1) + x2)).toNatClampNeg 0)) (ix4 hx1 (lpi_ix hx (lpi_c hx h1 (hi.2 _ (xin_lt hx1)).2) (by decide))) rfl d_MO_settle_130 ?_
            refine lv_iconst (v := 1) C.1 C.2.1 d_MO_settle_131 (by decide) ?_
            refine lv_icmp_gt (tgt := 144) C.1 C.2.1 d_MO_settle_132 (by decide) (fun h5 => ?_) (fun h5 => ?_)
            · refine lv_aload_n C.1 C.2.1 d_MO_settle_144 rfl (lv_at hl 1 rfl) ?_
              refine xget C hP o_MO rfl c_MO (k := 33) (v := .ref (b + 30)) (by decide) wg_910 rfl d_MO_settle_145 ?_
              refine lv_iload_n C.1 C.2.1 d_MO_settle_148 rfl (lv_at hl 0 rfl) ?_
              refine lv_iconst (v := 0) C.1 C.2.1 d_MO_settle_149 (by decide) ?_
              refine xzast mw_inj C hP hS om_30 rfl (ix4 hx1 (lpi_ix hx (lpi_c hx h1 (hi.2 _ (xin_lt hx1)).2) (by decide))) rfl d_MO_settle_150 (fun H locs hP hS => ?_)
              refine lv_aload_n C.1 C.2.1 d_MO_settle_151 rfl (lv_at hl 1 rfl) ?_
              refine xget C hP o_MO rfl c_MO (k := 34) (v := .ref (b + 31)) (by decide) wg_911 rfl d_MO_settle_152 ?_
              refine lv_iload_n C.1 C.2.1 d_MO_settle_155 rfl (lv_at hl 0 rfl) ?_
              refine lv_iconst (v := 0) C.1 C.2.1 d_MO_settle_156 (by decide) ?_
              refine xzast mw_inj C hP hS om_31 rfl (ix4 hx1 (lpi_ix hx (lpi_c hx h1 (hi.2 _ (xin_lt hx1)).2) (by decide))) rfl d_MO_settle_157 (fun H locs hP hS => ?_)
              refine lv_aload_n C.1 C.2.1 d_MO_settle_158 rfl (lv_at hl 1 rfl) ?_
              refine lv_iconst (v := 2) C.1 C.2.1 d_MO_settle_159 (by decide) ?_
              refine lv_iload_n C.1 C.2.1 d_MO_settle_160 rfl (lv_at hl 2 rfl) ?_
              refine lv_iload_n C.1 C.2.1 d_MO_settle_161 rfl (lv_at hl 3 rfl) ?_
              refine lv_iconst (v := 0) C.1 C.2.1 d_MO_settle_162 (by decide) ?_
              refine lv_iconst (v := 0) C.1 C.2.1 d_MO_settle_163 (by decide) ?_
              refine xcVv (rest := []) C hml hl.1 (k_MO_send l D cA b (xu (xu st 30 (((4 * x1) + x2)).toNatClampNeg 0 0) 31 (((4 * x1) + x2)).toNatClampNeg 0 0) 2 x1 x2 0 0 (qok_xa (qok_xa hi.1 (by decide)) (by decide)) hx1) q_MO_send rfl rfl wg_1135 wg_1137 ws_60 ⟨Nat.le_of_ble_eq_true rfl, Nat.le_of_ble_eq_true rfl⟩ hP hS o_MO rfl c_MO rfl (Nat.le_of_ble_eq_true rfl) d_MO_settle_164 rfl (fun H locs hP hS => ?_)
              refine lv_iinc (v := (x2 + 1)) C.1 C.2.1 d_MO_settle_167 hl (k := 3) rfl rfl (by decide) rfl (fun ls hl => ?_)
              have hl : lv_has ls 4 [(2, .int (x2 + 1)), (3, .int ((4 * x1) + x2)), (0, .ref (b + 0)), (1, .int x1)] := hl
              refine lv_goto (tgt := 10) C.1 C.2.1 d_MO_settle_170 (by decide) ?_
              rw [g_MO_settle_10, if_neg h1, if_pos h2, if_neg h3, if_pos h4, if_pos h5] at hg
              exact ih _ _ _ _ ls (lpi_nx hx (lpi_c hx h1 (hi.2 _ (xin_lt hx1)).2) (by decide)) ⟨(p_MO_send (qok_xa (qok_xa hi.1 (by decide)) (by decide))), (cok_of (cok_of (cok_of hi.2 (fun _ => xu_a (by decide))) (fun _ => xu_a (by decide))) (fun _ => fr_MO_send (by simp) (by decide)))⟩ (lv_sub hl [2, 3, 0] rfl) hP hS hg
            · refine lv_aload_n C.1 C.2.1 d_MO_settle_135 rfl (lv_at hl 1 rfl) ?_
              refine xget C hP o_MO rfl c_MO (k := 34) (v := .ref (b + 31)) (by decide) wg_911 rfl d_MO_settle_136 ?_
              refine lv_iload_n C.1 C.2.1 d_MO_settle_139 rfl (lv_at hl 0 rfl) ?_
              refine xzald C hP om_31 rfl (v := (bz (st 31 (((4 * x1) + x2)).toNatClampNeg 0))) (ix4 hx1 (lpi_ix hx (lpi_c hx h1 (hi.2 _ (xin_lt hx1)).2) (by decide))) rfl d_MO_settle_140 ?_
              refine lv_if_eq (tgt := 167) C.1 C.2.1 d_MO_settle_141 (by decide) (fun h6 => ?_) (fun h6 => ?_)
              · refine lv_iinc (v := (x2 + 1)) C.1 C.2.1 d_MO_settle_167 hl (k := 3) rfl rfl (by decide) rfl (fun ls hl => ?_)
                have hl : lv_has ls 4 [(2, .int (x2 + 1)), (3, .int ((4 * x1) + x2)), (0, .ref (b + 0)), (1, .int x1)] := hl
                refine lv_goto (tgt := 10) C.1 C.2.1 d_MO_settle_170 (by decide) ?_
                rw [g_MO_settle_10, if_neg h1, if_pos h2, if_neg h3, if_pos h4, if_neg h5, if_pos h6] at hg
                exact ih _ _ _ _ ls (lpi_nx hx (lpi_c hx h1 (hi.2 _ (xin_lt hx1)).2) (by decide)) ⟨hi.1, hi.2⟩ (lv_sub hl [2, 3, 0] rfl) hP hS hg
              · refine lv_aload_n C.1 C.2.1 d_MO_settle_144 rfl (lv_at hl 1 rfl) ?_
                refine xget C hP o_MO rfl c_MO (k := 33) (v := .ref (b + 30)) (by decide) wg_910 rfl d_MO_settle_145 ?_
                refine lv_iload_n C.1 C.2.1 d_MO_settle_148 rfl (lv_at hl 0 rfl) ?_
                refine lv_iconst (v := 0) C.1 C.2.1 d_MO_settle_149 (by decide) ?_
                refine xzast mw_inj C hP hS om_30 rfl (ix4 hx1 (lpi_ix hx (lpi_c hx h1 (hi.2 _ (xin_lt hx1)).2) (by decide))) rfl d_MO_settle_150 (fun H locs hP hS => ?_)
                refine lv_aload_n C.1 C.2.1 d_MO_settle_151 rfl (lv_at hl 1 rfl) ?_
                refine xget C hP o_MO rfl c_MO (k := 34) (v := .ref (b + 31)) (by decide) wg_911 rfl d_MO_settle_152 ?_
                refine lv_iload_n C.1 C.2.1 d_MO_settle_155 rfl (lv_at hl 0 rfl) ?_
                refine lv_iconst (v := 0) C.1 C.2.1 d_MO_settle_156 (by decide) ?_
                refine xzast mw_inj C hP hS om_31 rfl (ix4 hx1 (lpi_ix hx (lpi_c hx h1 (hi.2 _ (xin_lt hx1)).2) (by decide))) rfl d_MO_settle_157 (fun H locs hP hS => ?_)
                refine lv_aload_n C.1 C.2.1 d_MO_settle_158 rfl (lv_at hl 1 rfl) ?_
                refine lv_iconst (v := 2) C.1 C.2.1 d_MO_settle_159 (by decide) ?_
                refine lv_iload_n C.1 C.2.1 d_MO_settle_160 rfl (lv_at hl 2 rfl) ?_
                refine lv_iload_n C.1 C.2.1 d_MO_settle_161 rfl (lv_at hl 3 rfl) ?_
                refine lv_iconst (v := 0) C.1 C.2.1 d_MO_settle_162 (by decide) ?_
                refine lv_iconst (v := 0) C.1 C.2.1 d_MO_settle_163 (by decide) ?_
                refine xcVv (rest := []) C hml hl.1 (k_MO_send l D cA b (xu (xu st 30 (((4 * x1) + x2)).toNatClampNeg 0 0) 31 (((4 * x1) + x2)).toNatClampNeg 0 0) 2 x1 x2 0 0 (qok_xa (qok_xa hi.1 (by decide)) (by decide)) hx1) q_MO_send rfl rfl wg_1135 wg_1137 ws_60 ⟨Nat.le_of_ble_eq_true rfl, Nat.le_of_ble_eq_true rfl⟩ hP hS o_MO rfl c_MO rfl (Nat.le_of_ble_eq_true rfl) d_MO_settle_164 rfl (fun H locs hP hS => ?_)
                refine lv_iinc (v := (x2 + 1)) C.1 C.2.1 d_MO_settle_167 hl (k := 3) rfl rfl (by decide) rfl (fun ls hl => ?_)
                have hl : lv_has ls 4 [(2, .int (x2 + 1)), (3, .int ((4 * x1) + x2)), (0, .ref (b + 0)), (1, .int x1)] := hl
                refine lv_goto (tgt := 10) C.1 C.2.1 d_MO_settle_170 (by decide) ?_
                rw [g_MO_settle_10, if_neg h1, if_pos h2, if_neg h3, if_pos h4, if_neg h5, if_neg h6] at hg
                exact ih _ _ _ _ ls (lpi_nx hx (lpi_c hx h1 (hi.2 _ (xin_lt hx1)).2) (by decide)) ⟨(p_MO_send (qok_xa (qok_xa hi.1 (by decide)) (by decide))), (cok_of (cok_of (cok_of hi.2 (fun _ => xu_a (by decide))) (fun _ => xu_a (by decide))) (fun _ => fr_MO_send (by simp) (by decide)))⟩ (lv_sub hl [2, 3, 0] rfl) hP hS hg
        · refine lv_aload_n C.1 C.2.1 d_MO_settle_45 rfl (lv_at hl 1 rfl) ?_
          refine lv_iload_n C.1 C.2.1 d_MO_settle_46 rfl (lv_at hl 0 rfl) ?_
          refine xcVi (rest := []) C hml hl.1 (k_MO_isSo l D cA b st ((4 * x1) + x2) (ix4 hx1 (lpi_ix hx (lpi_c hx h1 (hi.2 _ (xin_lt hx1)).2) (by decide)))) q_MO_isSo rfl rfl wg_1123 wg_1125 ws_57 ⟨Nat.le_of_ble_eq_true rfl, Nat.le_of_ble_eq_true rfl⟩ hP hS o_MO rfl c_MO rfl (Nat.le_of_ble_eq_true rfl) d_MO_settle_47 rfl (fun H locs hP hS => ?_)
          refine lv_if_eq (tgt := 108) C.1 C.2.1 d_MO_settle_50 (by decide) (fun h7 => ?_) (fun h7 => ?_)
          · refine lv_aload_n C.1 C.2.1 d_MO_settle_108 rfl (lv_at hl 1 rfl) ?_
            refine xget C hP o_MO rfl c_MO (k := 33) (v := .ref (b + 30)) (by decide) wg_910 rfl d_MO_settle_109 ?_
            refine lv_iload_n C.1 C.2.1 d_MO_settle_112 rfl (lv_at hl 0 rfl) ?_
            refine xzald C hP om_30 rfl (v := (bz (st 30 (((4 * x1) + x2)).toNatClampNeg 0))) (ix4 hx1 (lpi_ix hx (lpi_c hx h1 (hi.2 _ (xin_lt hx1)).2) (by decide))) rfl d_MO_settle_113 ?_
            refine lv_if_eq (tgt := 167) C.1 C.2.1 d_MO_settle_114 (by decide) (fun _ => ?_) (fun h => absurd h3 h)
            refine lv_iinc (v := (x2 + 1)) C.1 C.2.1 d_MO_settle_167 hl (k := 3) rfl rfl (by decide) rfl (fun ls hl => ?_)
            have hl : lv_has ls 4 [(2, .int (x2 + 1)), (3, .int ((4 * x1) + x2)), (0, .ref (b + 0)), (1, .int x1)] := hl
            refine lv_goto (tgt := 10) C.1 C.2.1 d_MO_settle_170 (by decide) ?_
            rw [g_MO_settle_10, if_neg h1, if_pos h2, if_pos h3, if_pos h7] at hg
            exact ih _ _ _ _ ls (lpi_nx hx (lpi_c hx h1 (hi.2 _ (xin_lt hx1)).2) (by decide)) ⟨hi.1, hi.2⟩ (lv_sub hl [2, 3, 0] rfl) hP hS hg
          · refine lv_aload_n C.1 C.2.1 d_MO_settle_53 rfl (lv_at hl 1 rfl) ?_
            refine xget C hP o_MO rfl c_MO (k := 1) (v := .int (st 0 1 0)) (by decide) wg_878 rfl d_MO_settle_54 ?_
            refine lv_aload_n C.1 C.2.1 d_MO_settle_57 rfl (lv_at hl 1 rfl) ?_
            refine lv_iload_n C.1 C.2.1 d_MO_settle_58 rfl (lv_at hl 0 rfl) ?_
            refine xcVi (rest := [.int (st 0 1 0)]) C hml hl.1 (k_MO_since l D cA b st ((4 * x1) + x2) (ix4 hx1 (lpi_ix hx (lpi_c hx h1 (hi.2 _ (xin_lt hx1)).2) (by decide)))) q_MO_since rfl rfl wg_1131 wg_1133 ws_59 ⟨Nat.le_of_ble_eq_true rfl, Nat.le_of_ble_eq_true rfl⟩ hP hS o_MO rfl c_MO rfl (Nat.le_of_ble_eq_true rfl) d_MO_settle_59 rfl (fun H locs hP hS => ?_)
            refine lv_isub C.1 C.2.1 d_MO_settle_62 ?_
            refine lv_aload_n C.1 C.2.1 d_MO_settle_63 rfl (lv_at hl 1 rfl) ?_
            refine xget C hP o_MO rfl c_MO (k := 25) (v := .ref (b + 22)) (by decide) wg_902 rfl d_MO_settle_64 ?_
            refine lv_iload_n C.1 C.2.1 d_MO_settle_67 rfl (lv_at hl 0 rfl) ?_
            refine xiald C hP om_22 rfl (v := (st 22 (((4 * x1) + x2)).toNatClampNeg 0)) (ix4 hx1 (lpi_ix hx (lpi_c hx h1 (hi.2 _ (xin_lt hx1)).2) (by decide))) rfl d_MO_settle_68 ?_
            refine lv_icmp_lt (tgt := 108) C.1 C.2.1 d_MO_settle_69 (by decide) (fun h8 => ?_) (fun h8 => ?_)
            · refine lv_aload_n C.1 C.2.1 d_MO_settle_108 rfl (lv_at hl 1 rfl) ?_
              refine xget C hP o_MO rfl c_MO (k := 33) (v := .ref (b + 30)) (by decide) wg_910 rfl d_MO_settle_109 ?_
              refine lv_iload_n C.1 C.2.1 d_MO_settle_112 rfl (lv_at hl 0 rfl) ?_
              refine xzald C hP om_30 rfl (v := (bz (st 30 (((4 * x1) + x2)).toNatClampNeg 0))) (ix4 hx1 (lpi_ix hx (lpi_c hx h1 (hi.2 _ (xin_lt hx1)).2) (by decide))) rfl d_MO_settle_113 ?_
              refine lv_if_eq (tgt := 167) C.1 C.2.1 d_MO_settle_114 (by decide) (fun _ => ?_) (fun h => absurd h3 h)
              refine lv_iinc (v := (x2 + 1)) C.1 C.2.1 d_MO_settle_167 hl (k := 3) rfl rfl (by decide) rfl (fun ls hl => ?_)
              have hl : lv_has ls 4 [(2, .int (x2 + 1)), (3, .int ((4 * x1) + x2)), (0, .ref (b + 0)), (1, .int x1)] := hl
              refine lv_goto (tgt := 10) C.1 C.2.1 d_MO_settle_170 (by decide) ?_
              rw [g_MO_settle_10, if_neg h1, if_pos h2, if_pos h3, if_neg h7, if_pos h8] at hg
              exact ih _ _ _ _ ls (lpi_nx hx (lpi_c hx h1 (hi.2 _ (xin_lt hx1)).2) (by decide)) ⟨hi.1, hi.2⟩ (lv_sub hl [2, 3, 0] rfl) hP hS hg
            · refine lv_aload_n C.1 C.2.1 d_MO_settle_72 rfl (lv_at hl 1 rfl) ?_
              refine xget C hP o_MO rfl c_MO (k := 33) (v := .ref (b + 30)) (by decide) wg_910 rfl d_MO_settle_73 ?_
              refine lv_iload_n C.1 C.2.1 d_MO_settle_76 rfl (lv_at hl 0 rfl) ?_
              refine lv_iconst (v := 1) C.1 C.2.1 d_MO_settle_77 (by decide) ?_
              refine xzast mw_inj C hP hS om_30 rfl (ix4 hx1 (lpi_ix hx (lpi_c hx h1 (hi.2 _ (xin_lt hx1)).2) (by decide))) rfl d_MO_settle_78 (fun H locs hP hS => ?_)
              refine lv_aload_n C.1 C.2.1 d_MO_settle_79 rfl (lv_at hl 1 rfl) ?_
              refine xget C hP o_MO rfl c_MO (k := 34) (v := .ref (b + 31)) (by decide) wg_911 rfl d_MO_settle_80 ?_
              refine lv_iload_n C.1 C.2.1 d_MO_settle_83 rfl (lv_at hl 0 rfl) ?_
              refine lv_iconst (v := 0) C.1 C.2.1 d_MO_settle_84 (by decide) ?_
              refine xzast mw_inj C hP hS om_31 rfl (ix4 hx1 (lpi_ix hx (lpi_c hx h1 (hi.2 _ (xin_lt hx1)).2) (by decide))) rfl d_MO_settle_85 (fun H locs hP hS => ?_)
              refine lv_aload_n C.1 C.2.1 d_MO_settle_86 rfl (lv_at hl 1 rfl) ?_
              refine xget C hP o_MO rfl c_MO (k := 35) (v := .ref (b + 32)) (by decide) wg_912 rfl d_MO_settle_87 ?_
              refine lv_iload_n C.1 C.2.1 d_MO_settle_90 rfl (lv_at hl 0 rfl) ?_
              refine lv_aload_n C.1 C.2.1 d_MO_settle_91 rfl (lv_at hl 1 rfl) ?_
              refine xget C hP o_MO rfl c_MO (k := 1) (v := .int (st 0 1 0)) (by decide) wg_878 (congrArg Value.int (Eq.trans (xu_a (by decide)) (xu_a (by decide)))) d_MO_settle_92 ?_
              refine xiast mw_inj C hP hS om_32 rfl (ix4 hx1 (lpi_ix hx (lpi_c hx h1 (hi.2 _ (xin_lt hx1)).2) (by decide))) rfl d_MO_settle_95 (fun H locs hP hS => ?_)
              refine lv_aload_n C.1 C.2.1 d_MO_settle_96 rfl (lv_at hl 1 rfl) ?_
              refine lv_iconst (v := 2) C.1 C.2.1 d_MO_settle_97 (by decide) ?_
              refine lv_iload_n C.1 C.2.1 d_MO_settle_98 rfl (lv_at hl 2 rfl) ?_
              refine lv_iload_n C.1 C.2.1 d_MO_settle_99 rfl (lv_at hl 3 rfl) ?_
              refine lv_iconst (v := 1) C.1 C.2.1 d_MO_settle_100 (by decide) ?_
              refine lv_iconst (v := 0) C.1 C.2.1 d_MO_settle_101 (by decide) ?_
              refine xcVv (rest := []) C hml hl.1 (k_MO_send l D cA b (xu (xu (xu st 30 (((4 * x1) + x2)).toNatClampNeg 0 1) 31 (((4 * x1) + x2)).toNatClampNeg 0 0) 32 (((4 * x1) + x2)).toNatClampNeg 0 (st 0 1 0)) 2 x1 x2 1 0 (qok_xa (qok_xa (qok_xa hi.1 (by decide)) (by decide)) (by decide)) hx1) q_MO_send rfl rfl wg_1135 wg_1137 ws_60 ⟨Nat.le_of_ble_eq_true rfl, Nat.le_of_ble_eq_true rfl⟩ hP hS o_MO rfl c_MO rfl (Nat.le_of_ble_eq_true rfl) d_MO_settle_102 rfl (fun H locs hP hS => ?_)
              refine lv_goto (tgt := 167) C.1 C.2.1 d_MO_settle_105 (by decide) ?_
              refine lv_iinc (v := (x2 + 1)) C.1 C.2.1 d_MO_settle_167 hl (k := 3) rfl rfl (by decide) rfl (fun ls hl => ?_)
              have hl : lv_has ls 4 [(2, .int (x2 + 1)), (3, .int ((4 * x1) + x2)), (0, .ref (b + 0)), (1, .int x1)] := hl
              refine lv_goto (tgt := 10) C.1 C.2.1 d_MO_settle_170 (by decide) ?_
              rw [g_MO_settle_10, if_neg h1, if_pos h2, if_pos h3, if_neg h7, if_neg h8] at hg
              exact ih _ _ _ _ ls (lpi_nx hx (lpi_c hx h1 (hi.2 _ (xin_lt hx1)).2) (by decide)) ⟨(p_MO_send (qok_xa (qok_xa (qok_xa hi.1 (by decide)) (by decide)) (by decide))), (cok_of (cok_of (cok_of (cok_of hi.2 (fun _ => xu_a (by decide))) (fun _ => xu_a (by decide))) (fun _ => xu_a (by decide))) (fun _ => fr_MO_send (by simp) (by decide)))⟩ (lv_sub hl [2, 3, 0] rfl) hP hS hg
theorem fr_MO_settle_10 {a' k' i' : Nat} (h : (a', k') ∉ ([(0, 2), (0, 3), (0, 39)] : List (Nat × Nat))) (h2 : a' ∉ ([30, 31, 32, 36, 37, 38, 39, 40, 41, 42, 43] : List Nat)) : ∀ (n : Nat) (st : XS) (x1 : Int32) (x2 : Int32), (g_MO_settle_10 n st x1 x2) a' k' i' = st a' k' i' := by
  intro n
  induction n with
  | zero => intro st x1 x2; rfl
  | succ n ih =>
    intro st x1 x2
    unfold g_MO_settle_10
    repeat' split
    all_goals (try dsimp only)
    all_goals (repeat (first | with_reducible rfl | rw [xu_f (fun e => h (by rw [e]; decide))] | rw [xu_a (fun e => h2 (by rw [e]; decide))] | rw [fr_MO_send (fun q => h ((by decide : ∀ z ∈ ([(0, 2), (0, 3), (0, 39)] : List (Nat × Nat)), z ∈ ([(0, 2), (0, 3), (0, 39)] : List (Nat × Nat))) _ q)) (fun q => h2 ((by decide : ∀ z ∈ ([36, 37, 38, 39, 40, 41, 42, 43] : List Nat), z ∈ ([30, 31, 32, 36, 37, 38, 39, 40, 41, 42, 43] : List Nat)) _ q))] | rw [ih]))
theorem pg_MO_settle_10 : ∀ (n : Nat) (st : XS) (x1 : Int32) (x2 : Int32), qok st → qok (g_MO_settle_10 n st x1 x2) := by
  intro n
  induction n with
  | zero => intro st x1 x2 h; exact h
  | succ n ih =>
    intro st x1 x2 h
    unfold g_MO_settle_10
    repeat' split
    all_goals (try dsimp only)
    all_goals (repeat (first | with_reducible refine ih _ _ _ ?_ | with_reducible assumption | with_reducible refine p_MO_send ?_ | with_reducible refine qok_xa ?_ (by decide) | with_reducible refine qok_xu ?_ ?_ | decide))
def g_MO_settle_2 : Nat → XS → Int32 → XS
  | 0, st, x1 => st
  | n + 1, st, x1 =>
    if 8 ≤ x1 then st
    else (g_MO_settle_2 n (g_MO_settle_10 5 st x1 0) (x1 + 1))
set_option maxRecDepth 100000 in
set_option maxHeartbeats 4000000 in
theorem w_MO_settle_2 (l : Launch) (D : va_G) (cA : Nat → ClassId) (b : Nat) {p : Program} {e : Env} {s : State} {m : MethodId} {below : List Frame} {meth : Method} {c : Code} {Q : State → Prop} (C : xCx p s m ([.ref (b + 0)] : List Value).toArray c b_MO_settle y_MO_settle.cls D cA) (hml : c.maxLocals = 4) {stE : XS} (kx : ∀ (H1 : Heap) (locs1 : List Loc) (ls1 : Array Slot), xP mw D cA b stE H1 → va_S (xA mw b) s.heap H1 locs1 → lv_has ls1 4 [(0, .ref (b + 0))] → W p l e { frames := 2, cells := 0, slots := 0, locals := 42 } s m ([.ref (b + 0)] : List Value).toArray below meth c H1 locs1 0 0 Q (F0 m 179 ls1 [])) : ∀ (n : Nat) (st : XS) (x1 : Int32) (H : Heap) (locs : List Loc) (ls : Array Slot), lpi 8 n x1 → qok st ∧ cok st → lv_has ls 4 [(0, .ref (b + 0)), (1, .int x1)] → xP mw D cA b st H → va_S (xA mw b) s.heap H locs → g_MO_settle_2 n st x1 = stE → W p l e { frames := 2, cells := 0, slots := 0, locals := 42 } s m ([.ref (b + 0)] : List Value).toArray below meth c H locs 0 0 Q (F0 m 2 ls []) := by
  intro n
  induction n with
  | zero =>
    intro st x1 H locs ls hx
    exact absurd hx (fun h => lpi_no h)
  | succ n ih =>
    intro st x1 H locs ls hx hi hl hP hS hg
    refine lv_iload_n C.1 C.2.1 d_MO_settle_2 rfl (lv_at hl 1 rfl) ?_
    refine lv_bipush (v := 8) C.1 C.2.1 d_MO_settle_3 (by decide) ?_
    refine lv_icmp_ge (tgt := 179) C.1 C.2.1 d_MO_settle_5 (by decide) (fun h1 => ?_) (fun h1 => ?_)
    · rw [g_MO_settle_2, if_pos h1] at hg
      subst hg
      exact kx _ _ ls hP hS (lv_sub hl [0] rfl)
    · refine lv_iconst (v := 0) C.1 C.2.1 d_MO_settle_8 (by decide) ?_
      refine lv_istore_n C.1 C.2.1 d_MO_settle_9 rfl hl (by decide) rfl (fun ls hl => ?_)
      have hl : lv_has ls 4 [(2, .int 0), (0, .ref (b + 0)), (1, .int x1)] := hl
      refine w_MO_settle_10 l D cA b x1 (lpi_ix hx (lpi_c hx h1 i32_8) (by decide)) C hml  (fun H locs ls hP hS hl => ?_) 5 st 0 _ _ ls lpi_st hi (lv_sub hl [1, 2, 0] rfl) hP hS rfl
      have hl : lv_has ls 4 [(0, .ref (b + 0)), (1, .int x1)] := hl
      refine lv_iinc (v := (x1 + 1)) C.1 C.2.1 d_MO_settle_173 hl (k := 1) rfl rfl (by decide) rfl (fun ls hl => ?_)
      have hl : lv_has ls 4 [(1, .int (x1 + 1)), (0, .ref (b + 0))] := hl
      refine lv_goto (tgt := 2) C.1 C.2.1 d_MO_settle_176 (by decide) ?_
      rw [g_MO_settle_2, if_neg h1] at hg
      exact ih _ _ _ _ ls (lpi_nx hx (lpi_c hx h1 i32_8) (by decide)) ⟨(pg_MO_settle_10 _ _ _ _ hi.1), (cok_of hi.2 (fun _ => fr_MO_settle_10 (by simp) (by decide) _ _ _ _))⟩ (lv_sub hl [1, 0] rfl) hP hS hg
theorem fr_MO_settle_2 {a' k' i' : Nat} (h : (a', k') ∉ ([(0, 2), (0, 3), (0, 39)] : List (Nat × Nat))) (h2 : a' ∉ ([30, 31, 32, 36, 37, 38, 39, 40, 41, 42, 43] : List Nat)) : ∀ (n : Nat) (st : XS) (x1 : Int32), (g_MO_settle_2 n st x1) a' k' i' = st a' k' i' := by
  intro n
  induction n with
  | zero => intro st x1; rfl
  | succ n ih =>
    intro st x1
    unfold g_MO_settle_2
    repeat' split
    all_goals (try dsimp only)
    all_goals (repeat (first | with_reducible rfl | rw [xu_f (fun e => h (by rw [e]; decide))] | rw [xu_a (fun e => h2 (by rw [e]; decide))] | rw [fr_MO_send (fun q => h ((by decide : ∀ z ∈ ([(0, 2), (0, 3), (0, 39)] : List (Nat × Nat)), z ∈ ([(0, 2), (0, 3), (0, 39)] : List (Nat × Nat))) _ q)) (fun q => h2 ((by decide : ∀ z ∈ ([36, 37, 38, 39, 40, 41, 42, 43] : List Nat), z ∈ ([30, 31, 32, 36, 37, 38, 39, 40, 41, 42, 43] : List Nat)) _ q))] | rw [fr_MO_settle_10 (fun q => h ((by decide : ∀ z ∈ ([(0, 2), (0, 3), (0, 39)] : List (Nat × Nat)), z ∈ ([(0, 2), (0, 3), (0, 39)] : List (Nat × Nat))) _ q)) (fun q => h2 ((by decide : ∀ z ∈ ([30, 31, 32, 36, 37, 38, 39, 40, 41, 42, 43] : List Nat), z ∈ ([30, 31, 32, 36, 37, 38, 39, 40, 41, 42, 43] : List Nat)) _ q))] | rw [ih]))
theorem pg_MO_settle_2 : ∀ (n : Nat) (st : XS) (x1 : Int32), qok st → qok (g_MO_settle_2 n st x1) := by
  intro n
  induction n with
  | zero => intro st x1 h; exact h
  | succ n ih =>
    intro st x1 h
    unfold g_MO_settle_2
    repeat' split
    all_goals (try dsimp only)
    all_goals (repeat (first | with_reducible refine ih _ _ ?_ | with_reducible assumption | with_reducible refine p_MO_send ?_ | with_reducible refine pg_MO_settle_10 _ _ _ _ ?_ | with_reducible refine qok_xa ?_ (by decide) | with_reducible refine qok_xu ?_ ?_ | decide))
def f_MO_settle (st : XS) : XS :=
  (g_MO_settle_2 9 st 0)
set_option maxRecDepth 100000 in
set_option maxHeartbeats 4000000 in
theorem fr_MO_settle {st : XS} {a' k' i' : Nat} (h : (a', k') ∉ ([(0, 2), (0, 3), (0, 39)] : List (Nat × Nat))) (h2 : a' ∉ ([30, 31, 32, 36, 37, 38, 39, 40, 41, 42, 43] : List Nat)) : (f_MO_settle st) a' k' i' = st a' k' i' := by
  unfold f_MO_settle
  repeat' split
  all_goals (try dsimp only)
  all_goals (repeat (first | with_reducible rfl | rw [xu_f (fun e => h (by rw [e]; decide))] | rw [xu_a (fun e => h2 (by rw [e]; decide))] | rw [fr_MO_send (fun q => h ((by decide : ∀ z ∈ ([(0, 2), (0, 3), (0, 39)] : List (Nat × Nat)), z ∈ ([(0, 2), (0, 3), (0, 39)] : List (Nat × Nat))) _ q)) (fun q => h2 ((by decide : ∀ z ∈ ([36, 37, 38, 39, 40, 41, 42, 43] : List Nat), z ∈ ([30, 31, 32, 36, 37, 38, 39, 40, 41, 42, 43] : List Nat)) _ q))] | rw [fr_MO_settle_10 (fun q => h ((by decide : ∀ z ∈ ([(0, 2), (0, 3), (0, 39)] : List (Nat × Nat)), z ∈ ([(0, 2), (0, 3), (0, 39)] : List (Nat × Nat))) _ q)) (fun q => h2 ((by decide : ∀ z ∈ ([30, 31, 32, 36, 37, 38, 39, 40, 41, 42, 43] : List Nat), z ∈ ([30, 31, 32, 36, 37, 38, 39, 40, 41, 42, 43] : List Nat)) _ q))] | rw [fr_MO_settle_2 (fun q => h ((by decide : ∀ z ∈ ([(0, 2), (0, 3), (0, 39)] : List (Nat × Nat)), z ∈ ([(0, 2), (0, 3), (0, 39)] : List (Nat × Nat))) _ q)) (fun q => h2 ((by decide : ∀ z ∈ ([30, 31, 32, 36, 37, 38, 39, 40, 41, 42, 43] : List Nat), z ∈ ([30, 31, 32, 36, 37, 38, 39, 40, 41, 42, 43] : List Nat)) _ q))]))
theorem p_MO_settle {st : XS} (h : qok st) : qok (f_MO_settle st) := by
  unfold f_MO_settle
  repeat' split
  all_goals (try dsimp only)
  all_goals (repeat (first | with_reducible refine pg_MO_settle_2 _ _ _ ?_ | with_reducible refine pg_MO_settle_10 _ _ _ _ ?_ | with_reducible assumption | with_reducible refine p_MO_send ?_ | with_reducible refine qok_xa ?_ (by decide) | with_reducible refine qok_xu ?_ ?_ | decide))
set_option maxRecDepth 100000 in
set_option maxHeartbeats 4000000 in
theorem k_MO_settle (l : Launch) (D : va_G) (cA : Nat → ClassId) (b : Nat) (st : XS) (hq : qok st) (hc : cok st) : xMv mw D cA b l y_MO_settle (Cond.code y_MO_settle b_MO_settle 4 none) { frames := 2, cells := 0, slots := 0, locals := 42 } st [.ref (b + 0)] (f_MO_settle st) := by
  refine xMv_of rfl (by decide) (Nat.le_of_ble_eq_true rfl) ?_
  intro p e s m below meth c ls C hlk hr hml hl hP hS
  have hl : lv_has ls 4 [(0, .ref (b + 0))] := hl
  refine lv_iconst (v := 0) C.1 C.2.1 d_MO_settle_0 (by decide) ?_
  refine lv_istore_n C.1 C.2.1 d_MO_settle_1 rfl hl (by decide) rfl (fun ls hl => ?_)
  have hl : lv_has ls 4 [(1, .int 0), (0, .ref (b + 0))] := hl
  refine w_MO_settle_2 l D cA b C hml  (fun H locs ls hP hS hl => ?_) 9 st 0 _ _ ls lpi_st ⟨hq, hc⟩ (lv_sub hl [1, 0] rfl) hP hS rfl
  have hl : lv_has ls 4 [(0, .ref (b + 0))] := hl
  exact xrv C hlk hr hP hS d_MO_settle_179 (by rw [f_MO_settle])
