def f_BN_channelFact (st : XS) (q : Nat) (a2 : Int32) : Int32 :=
  if a2 = 0 then (f_AL_standing st q)
  else if a2 = 1 then (f_AL_levelAt st q (st 0 8 0))
  else if a2 = 2 then (if (bz (st 12 4 q)) = 0 then 0
    else 1)
  else if a2 = 3 then (if (bz (st 12 4 q)) = 0 then (-1)
    else (st 12 5 q))
  else (f_KN_standing st q)
set_option maxRecDepth 100000 in
set_option maxHeartbeats 4000000 in
theorem k_BN_channelFact (l : Launch) (D : va_G) (cA : Nat → ClassId) (b : Nat) (st : XS) (q : Nat) (hq : cix q) (a2 : Int32) : xMi cw D cA b l y_BN_channelFact (Cond.code y_BN_channelFact b_BN_channelFact 3 (some .int)) { frames := 2, cells := 0, slots := 0, locals := 43 } st [.ref (b + 0), .ref (b + (77 + q)), .int a2] (f_BN_channelFact st q a2) st := by
  refine xMi_of rfl (by decide) (Nat.le_of_ble_eq_true rfl) ?_
  intro p e s m below meth c ls C hlk hr hml hl hP hS
  have hl : lv_has ls 3 [(0, .ref (b + 0)), (1, .ref (b + (77 + q))), (2, .int a2)] := hl
  refine lv_iload_n C.1 C.2.1 d_BN_channelFact_0 rfl (lv_at hl 2 rfl) ?_
  by_cases h1 : a2 = 0
  · refine lv_tableIn (tgt := 32) (off := 31) C.1 C.2.1 d_BN_channelFact_1 (by rw [h1]; decide) (by rw [h1]; decide) (by rw [h1]; rfl) (by decide) ?_
    refine lv_aload_n C.1 C.2.1 d_BN_channelFact_32 rfl (lv_at hl 1 rfl) ?_
    refine xgetN C hP (o_CH hq) rfl c_CH (k := 1) (v := .ref (b + (79 + q))) (by decide) wn_243 rfl d_BN_channelFact_33 ?_
    refine xcVNi (rest := []) C hml hl.1 (k_AL_standing l D cA b st (79 + q) q (o_AL hq)) q_AL_standing rfl rfl wn_842 wg_844 ws_48 ⟨Nat.le_of_ble_eq_true rfl, Nat.le_of_ble_eq_true rfl⟩ hP hS (o_AL hq) rfl c_AL rfl (Nat.le_of_ble_eq_true rfl) d_BN_channelFact_36 rfl (fun H locs hP hS => ?_)
    exact xri C hlk hr hP hS d_BN_channelFact_39 ⟨by rw [f_BN_channelFact, if_pos h1], rfl⟩
  by_cases h2 : a2 = 1
  · refine lv_tableIn (tgt := 40) (off := 39) C.1 C.2.1 d_BN_channelFact_1 (by rw [h2]; decide) (by rw [h2]; decide) (by rw [h2]; rfl) (by decide) ?_
    refine lv_aload_n C.1 C.2.1 d_BN_channelFact_40 rfl (lv_at hl 1 rfl) ?_
    refine xgetN C hP (o_CH hq) rfl c_CH (k := 1) (v := .ref (b + (79 + q))) (by decide) wn_243 rfl d_BN_channelFact_41 ?_
    refine lv_aload_n C.1 C.2.1 d_BN_channelFact_44 rfl (lv_at hl 0 rfl) ?_
    refine xget C hP o_BN rfl c_BN (k := 8) (v := .int (st 0 8 0)) (by decide) wg_386 rfl d_BN_channelFact_45 ?_
    refine xcVNi (rest := []) C hml hl.1 (k_AL_levelAt l D cA b st (79 + q) q (o_AL hq) (st 0 8 0)) q_AL_levelAt rfl rfl wn_846 wg_848 ws_49 ⟨Nat.le_of_ble_eq_true rfl, Nat.le_of_ble_eq_true rfl⟩ hP hS (o_AL hq) rfl c_AL rfl (Nat.le_of_ble_eq_true rfl) d_BN_channelFact_48 rfl (fun H locs hP hS => ?_)
    exact xri C hlk hr hP hS d_BN_channelFact_51 ⟨by rw [f_BN_channelFact, if_neg h1, if_pos h2], rfl⟩
  by_cases h3 : a2 = 2
  · refine lv_tableIn (tgt := 52) (off := 51) C.1 C.2.1 d_BN_channelFact_1 (by rw [h3]; decide) (by rw [h3]; decide) (by rw [h3]; rfl) (by decide) ?_
    refine lv_aload_n C.1 C.2.1 d_BN_channelFact_52 rfl (lv_at hl 1 rfl) ?_
    refine xgetN C hP (o_CH hq) rfl c_CH (k := 4) (v := .int (bz (st 12 4 q))) (by decide) wn_251 rfl d_BN_channelFact_53 ?_
    refine lv_if_eq (tgt := 63) C.1 C.2.1 d_BN_channelFact_56 (by decide) (fun h4 => ?_) (fun h4 => ?_)
    · refine lv_iconst (v := 0) C.1 C.2.1 d_BN_channelFact_63 (by decide) ?_
      exact xri C hlk hr hP hS d_BN_channelFact_64 ⟨by rw [f_BN_channelFact, if_neg h1, if_neg h2, if_pos h3, if_pos h4], rfl⟩
    · refine lv_iconst (v := 1) C.1 C.2.1 d_BN_channelFact_59 (by decide) ?_
      refine lv_goto (tgt := 64) C.1 C.2.1 d_BN_channelFact_60 (by decide) ?_
      exact xri C hlk hr hP hS d_BN_channelFact_64 ⟨by rw [f_BN_channelFact, if_neg h1, if_neg h2, if_pos h3, if_neg h4], rfl⟩
  by_cases h5 : a2 = 3
  · refine lv_tableIn (tgt := 65) (off := 64) C.1 C.2.1 d_BN_channelFact_1 (by rw [h5]; decide) (by rw [h5]; decide) (by rw [h5]; rfl) (by decide) ?_
    refine lv_aload_n C.1 C.2.1 d_BN_channelFact_65 rfl (lv_at hl 1 rfl) ?_
    refine xgetN C hP (o_CH hq) rfl c_CH (k := 4) (v := .int (bz (st 12 4 q))) (by decide) wn_251 rfl d_BN_channelFact_66 ?_
    refine lv_if_eq (tgt := 79) C.1 C.2.1 d_BN_channelFact_69 (by decide) (fun h6 => ?_) (fun h6 => ?_)
    · refine lv_iconst (v := (-1)) C.1 C.2.1 d_BN_channelFact_79 (by decide) ?_
      exact xri C hlk hr hP hS d_BN_channelFact_80 ⟨by rw [f_BN_channelFact, if_neg h1, if_neg h2, if_neg h3, if_pos h5, if_pos h6], rfl⟩
    · refine lv_aload_n C.1 C.2.1 d_BN_channelFact_72 rfl (lv_at hl 1 rfl) ?_
      refine xgetN C hP (o_CH hq) rfl c_CH (k := 5) (v := .int (st 12 5 q)) (by decide) wn_253 rfl d_BN_channelFact_73 ?_
      refine lv_goto (tgt := 80) C.1 C.2.1 d_BN_channelFact_76 (by decide) ?_
      exact xri C hlk hr hP hS d_BN_channelFact_80 ⟨by rw [f_BN_channelFact, if_neg h1, if_neg h2, if_neg h3, if_pos h5, if_neg h6], rfl⟩
  refine lv_tableOut (tgt := 81) C.1 C.2.1 d_BN_channelFact_1 (by have eh1 := lv_neT h1 (a := 0) (by decide); have eh2 := lv_neT h2 (a := 1) (by decide); have eh3 := lv_neT h3 (a := 2) (by decide); have eh5 := lv_neT h5 (a := 3) (by decide); omega) (by decide) ?_
  refine lv_aload_n C.1 C.2.1 d_BN_channelFact_81 rfl (lv_at hl 1 rfl) ?_
  refine xgetN C hP (o_CH hq) rfl c_CH (k := 2) (v := .ref (b + (80 + q))) (by decide) wn_247 rfl d_BN_channelFact_82 ?_
  refine xcVNi (rest := []) C hml hl.1 (k_KN_standing l D cA b st (80 + q) q (o_KN hq)) q_KN_standing rfl rfl wn_851 wg_853 ws_50 ⟨Nat.le_of_ble_eq_true rfl, Nat.le_of_ble_eq_true rfl⟩ hP hS (o_KN hq) rfl c_KN rfl (Nat.le_of_ble_eq_true rfl) d_BN_channelFact_85 rfl (fun H locs hP hS => ?_)
  exact xri C hlk hr hP hS d_BN_channelFact_88 ⟨by rw [f_BN_channelFact, if_neg h1, if_neg h2, if_neg h3, if_neg h5], rfl⟩
