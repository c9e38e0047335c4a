def f_BN_deviceFact (st : XS) (d : Nat) (a2 : Int32) : Int32 :=
  if a2 = 0 then (st 8 2 d)
  else if a2 = 1 then (st 8 3 d)
  else if a2 = 2 then (st 8 4 d)
  else if a2 = 3 then (st 8 5 d)
  else if a2 = 4 then (st 8 6 d)
  else if a2 = 5 then (if (f_DE_soundsAt st d (st 0 8 0)) = 0 then 0
    else 1)
  else if a2 = 6 then (if (bz (st 10 1 d)) = 0 then (-1)
    else (st 10 2 d))
  else if a2 = 7 then (f_SE_holderAt st d (st 0 8 0))
  else if a2 = 8 then (if (bz (st 10 3 d)) = 0 then 0
    else 1)
  else if (bz (st 10 1 d)) = 0 then 0
  else 1
set_option maxRecDepth 100000 in
set_option maxHeartbeats 4000000 in
theorem k_BN_deviceFact (l : Launch) (D : va_G) (cA : Nat → ClassId) (b : Nat) (st : XS) (d : Nat) (hd : d < 8) (a2 : Int32) (ho : dok st) : xMi cw D cA b l y_BN_deviceFact (Cond.code y_BN_deviceFact b_BN_deviceFact 3 (some .int)) { frames := 2, cells := 0, slots := 0, locals := 42 } st [.ref (b + 0), .ref (b + (73 + 20 * d)), .int a2] (f_BN_deviceFact st d a2) st := by
  refine xMi_of rfl (by decide) (Nat.le_of_ble_eq_true rfl) ?_
  intro p e s m below meth c ls C hlk hr hml hl hP hS
  have hl : lv_has ls 3 [(0, .ref (b + 0)), (1, .ref (b + (73 + 20 * d))), (2, .int a2)] := hl
  refine lv_iload_n C.1 C.2.1 d_BN_deviceFact_0 rfl (lv_at hl 2 rfl) ?_
  by_cases h1 : a2 = 0
  · refine lv_tableIn (tgt := 52) (off := 51) C.1 C.2.1 d_BN_deviceFact_1 (by rw [h1]; decide) (by rw [h1]; decide) (by rw [h1]; rfl) (by decide) ?_
    refine lv_aload_n C.1 C.2.1 d_BN_deviceFact_52 rfl (lv_at hl 1 rfl) ?_
    refine xgetN C hP (o_DE hd) rfl c_DE (k := 2) (v := .int (st 8 2 d)) (by decide) wn_285 rfl d_BN_deviceFact_53 ?_
    exact xri C hlk hr hP hS d_BN_deviceFact_56 ⟨by rw [f_BN_deviceFact, if_pos h1], rfl⟩
  by_cases h2 : a2 = 1
  · refine lv_tableIn (tgt := 57) (off := 56) C.1 C.2.1 d_BN_deviceFact_1 (by rw [h2]; decide) (by rw [h2]; decide) (by rw [h2]; rfl) (by decide) ?_
    refine lv_aload_n C.1 C.2.1 d_BN_deviceFact_57 rfl (lv_at hl 1 rfl) ?_
    refine xgetN C hP (o_DE hd) rfl c_DE (k := 3) (v := .int (st 8 3 d)) (by decide) wn_287 rfl d_BN_deviceFact_58 ?_
    exact xri C hlk hr hP hS d_BN_deviceFact_61 ⟨by rw [f_BN_deviceFact, if_neg h1, if_pos h2], rfl⟩
  by_cases h3 : a2 = 2
  · refine lv_tableIn (tgt := 62) (off := 61) C.1 C.2.1 d_BN_deviceFact_1 (by rw [h3]; decide) (by rw [h3]; decide) (by rw [h3]; rfl) (by decide) ?_
    refine lv_aload_n C.1 C.2.1 d_BN_deviceFact_62 rfl (lv_at hl 1 rfl) ?_
    refine xgetN C hP (o_DE hd) rfl c_DE (k := 4) (v := .int (st 8 4 d)) (by decide) wn_289 rfl d_BN_deviceFact_63 ?_
    exact xri C hlk hr hP hS d_BN_deviceFact_66 ⟨by rw [f_BN_deviceFact, if_neg h1, if_neg h2, if_pos h3], rfl⟩
  by_cases h4 : a2 = 3
  · refine lv_tableIn (tgt := 67) (off := 66) C.1 C.2.1 d_BN_deviceFact_1 (by rw [h4]; decide) (by rw [h4]; decide) (by rw [h4]; rfl) (by decide) ?_
    refine lv_aload_n C.1 C.2.1 d_BN_deviceFact_67 rfl (lv_at hl 1 rfl) ?_
    refine xgetN C hP (o_DE hd) rfl c_DE (k := 5) (v := .int (st 8 5 d)) (by decide) wn_291 rfl d_BN_deviceFact_68 ?_
    exact xri C hlk hr hP hS d_BN_deviceFact_71 ⟨by rw [f_BN_deviceFact, if_neg h1, if_neg h2, if_neg h3, if_pos h4], rfl⟩
  by_cases h5 : a2 = 4
  · refine lv_tableIn (tgt := 72) (off := 71) C.1 C.2.1 d_BN_deviceFact_1 (by rw [h5]; decide) (by rw [h5]; decide) (by rw [h5]; rfl) (by decide) ?_
    refine lv_aload_n C.1 C.2.1 d_BN_deviceFact_72 rfl (lv_at hl 1 rfl) ?_
    refine xgetN C hP (o_DE hd) rfl c_DE (k := 6) (v := .int (st 8 6 d)) (by decide) wn_293 rfl d_BN_deviceFact_73 ?_
    exact xri C hlk hr hP hS d_BN_deviceFact_76 ⟨by rw [f_BN_deviceFact, if_neg h1, if_neg h2, if_neg h3, if_neg h4, if_pos h5], rfl⟩
  by_cases h6 : a2 = 5
  · refine lv_tableIn (tgt := 77) (off := 76) C.1 C.2.1 d_BN_deviceFact_1 (by rw [h6]; decide) (by rw [h6]; decide) (by rw [h6]; rfl) (by decide) ?_
    refine lv_aload_n C.1 C.2.1 d_BN_deviceFact_77 rfl (lv_at hl 1 rfl) ?_
    refine lv_aload_n C.1 C.2.1 d_BN_deviceFact_78 rfl (lv_at hl 0 rfl) ?_
    refine xget C hP o_BN rfl c_BN (k := 8) (v := .int (st 0 8 0)) (by decide) wg_386 rfl d_BN_deviceFact_79 ?_
    refine xcVNi (rest := []) C hml hl.1 (k_DE_soundsAt l D cA b st d hd (st 0 8 0) (ho _ hd)) q_DE_soundsAt rfl rfl wn_830 wg_832 ws_45 ⟨Nat.le_of_ble_eq_true rfl, Nat.le_of_ble_eq_true rfl⟩ hP hS (o_DE hd) rfl c_DE rfl (Nat.le_of_ble_eq_true rfl) d_BN_deviceFact_82 rfl (fun H locs hP hS => ?_)
    refine lv_if_eq (tgt := 92) C.1 C.2.1 d_BN_deviceFact_85 (by decide) (fun h7 => ?_) (fun h7 => ?_)
    · refine lv_iconst (v := 0) C.1 C.2.1 d_BN_deviceFact_92 (by decide) ?_
      exact xri C hlk hr hP hS d_BN_deviceFact_93 ⟨by rw [f_BN_deviceFact, if_neg h1, if_neg h2, if_neg h3, if_neg h4, if_neg h5, if_pos h6, if_pos h7], rfl⟩
    · refine lv_iconst (v := 1) C.1 C.2.1 d_BN_deviceFact_88 (by decide) ?_
      refine lv_goto (tgt := 93) C.1 C.2.1 d_BN_deviceFact_89 (by decide) ?_
      exact xri C hlk hr hP hS d_BN_deviceFact_93 ⟨by rw [f_BN_deviceFact, if_neg h1, if_neg h2, if_neg h3, if_neg h4, if_neg h5, if_pos h6, if_neg h7], rfl⟩
  by_cases h8 : a2 = 6
  · refine lv_tableIn (tgt := 94) (off := 93) C.1 C.2.1 d_BN_deviceFact_1 (by rw [h8]; decide) (by rw [h8]; decide) (by rw [h8]; rfl) (by decide) ?_
    refine lv_aload_n C.1 C.2.1 d_BN_deviceFact_94 rfl (lv_at hl 1 rfl) ?_
    refine xgetN C hP (o_DE hd) rfl c_DE (k := 1) (v := .ref (b + (75 + 20 * d))) (by decide) wn_283 rfl d_BN_deviceFact_95 ?_
    refine xgetN C hP (o_SE hd) rfl c_SE (k := 1) (v := .int (bz (st 10 1 d))) (by decide) wn_148 rfl d_BN_deviceFact_98 ?_
    refine lv_if_eq (tgt := 114) C.1 C.2.1 d_BN_deviceFact_101 (by decide) (fun h9 => ?_) (fun h9 => ?_)
    · refine lv_iconst (v := (-1)) C.1 C.2.1 d_BN_deviceFact_114 (by decide) ?_
      exact xri C hlk hr hP hS d_BN_deviceFact_115 ⟨by rw [f_BN_deviceFact, if_neg h1, if_neg h2, if_neg h3, if_neg h4, if_neg h5, if_neg h6, if_pos h8, if_pos h9], rfl⟩
    · refine lv_aload_n C.1 C.2.1 d_BN_deviceFact_104 rfl (lv_at hl 1 rfl) ?_
      refine xgetN C hP (o_DE hd) rfl c_DE (k := 1) (v := .ref (b + (75 + 20 * d))) (by decide) wn_283 rfl d_BN_deviceFact_105 ?_
      refine xgetN C hP (o_SE hd) rfl c_SE (k := 2) (v := .int (st 10 2 d)) (by decide) wn_150 rfl d_BN_deviceFact_108 ?_
      refine lv_goto (tgt := 115) C.1 C.2.1 d_BN_deviceFact_111 (by decide) ?_
      exact xri C hlk hr hP hS d_BN_deviceFact_115 ⟨by rw [f_BN_deviceFact, if_neg h1, if_neg h2, if_neg h3, if_neg h4, if_neg h5, if_neg h6, if_pos h8, if_neg h9], rfl⟩
  by_cases h10 : a2 = 7
  · refine lv_tableIn (tgt := 116) (off := 115) C.1 C.2.1 d_BN_deviceFact_1 (by rw [h10]; decide) (by rw [h10]; decide) (by rw [h10]; rfl) (by decide) ?_
    refine lv_aload_n C.1 C.2.1 d_BN_deviceFact_116 rfl (lv_at hl 1 rfl) ?_
    refine xgetN C hP (o_DE hd) rfl c_DE (k := 1) (v := .ref (b + (75 + 20 * d))) (by decide) wn_283 rfl d_BN_deviceFact_117 ?_
    refine lv_aload_n C.1 C.2.1 d_BN_deviceFact_120 rfl (lv_at hl 0 rfl) ?_
    refine xget C hP o_BN rfl c_BN (k := 8) (v := .int (st 0 8 0)) (by decide) wg_386 rfl d_BN_deviceFact_121 ?_
    refine xcVNi (rest := []) C hml hl.1 (k_SE_holderAt l D cA b st d hd (st 0 8 0)) q_SE_holderAt rfl rfl wn_550 wg_552 ws_22 ⟨Nat.le_of_ble_eq_true rfl, Nat.le_of_ble_eq_true rfl⟩ hP hS (o_SE hd) rfl c_SE rfl (Nat.le_of_ble_eq_true rfl) d_BN_deviceFact_124 rfl (fun H locs hP hS => ?_)
    exact xri C hlk hr hP hS d_BN_deviceFact_127 ⟨by rw [f_BN_deviceFact, if_neg h1, if_neg h2, if_neg h3, if_neg h4, if_neg h5, if_neg h6, if_neg h8, if_pos h10], rfl⟩
  by_cases h11 : a2 = 8
  · refine lv_tableIn (tgt := 128) (off := 127) C.1 C.2.1 d_BN_deviceFact_1 (by rw [h11]; decide) (by rw [h11]; decide) (by rw [h11]; rfl) (by decide) ?_
    refine lv_aload_n C.1 C.2.1 d_BN_deviceFact_128 rfl (lv_at hl 1 rfl) ?_
    refine xgetN C hP (o_DE hd) rfl c_DE (k := 1) (v := .ref (b + (75 + 20 * d))) (by decide) wn_283 rfl d_BN_deviceFact_129 ?_
    refine xgetN C hP (o_SE hd) rfl c_SE (k := 3) (v := .int (bz (st 10 3 d))) (by decide) wn_152 rfl d_BN_deviceFact_132 ?_
    refine lv_if_eq (tgt := 142) C.1 C.2.1 d_BN_deviceFact_135 (by decide) (fun h12 => ?_) (fun h12 => ?_)
    · refine lv_iconst (v := 0) C.1 C.2.1 d_BN_deviceFact_142 (by decide) ?_
      exact xri C hlk hr hP hS d_BN_deviceFact_143 ⟨by rw [f_BN_deviceFact, if_neg h1, if_neg h2, if_neg h3, if_neg h4, if_neg h5, if_neg h6, if_neg h8, if_neg h10, if_pos h11, if_pos h12], rfl⟩
    · refine lv_iconst (v := 1) C.1 C.2.1 d_BN_deviceFact_138 (by decide) ?_
      refine lv_goto (tgt := 143) C.1 C.2.1 d_BN_deviceFact_139 (by decide) ?_
      exact xri C hlk hr hP hS d_BN_deviceFact_143 ⟨by rw [f_BN_deviceFact, if_neg h1, if_neg h2, if_neg h3, if_neg h4, if_neg h5, if_neg h6, if_neg h8, if_neg h10, if_pos h11, if_neg h12], rfl⟩
  refine lv_tableOut (tgt := 144) C.1 C.2.1 d_BN_deviceFact_1 (by have eh1 := lv_neT h1 (a := 0) (by decide); have eh2 := lv_neT h2 (a := 1) (by decide); have eh3 := lv_neT h3 (a := 2) (by decide); have eh4 := lv_neT h4 (a := 3) (by decide); have eh5 := lv_neT h5 (a := 4) (by decide); have eh6 := lv_neT h6 (a := 5) (by decide); have eh8 := lv_neT h8 (a := 6) (by decide); have eh10 := lv_neT h10 (a := 7) (by decide); have eh11 := lv_neT h11 (a := 8) (by decide); omega) (by decide) ?_
  refine lv_aload_n C.1 C.2.1 d_BN_deviceFact_144 rfl (lv_at hl 1 rfl) ?_
  refine xgetN C hP (o_DE hd) rfl c_DE (k := 1) (v := .ref (b + (75 + 20 * d))) (by decide) wn_283 rfl d_BN_deviceFact_145 ?_
  refine xgetN C hP (o_SE hd) rfl c_SE (k := 1) (v := .int (bz (st 10 1 d))) (by decide) wn_148 rfl d_BN_deviceFact_148 ?_
  refine lv_if_eq (tgt := 158) C.1 C.2.1 d_BN_deviceFact_151 (by decide) (fun h13 => ?_) (fun h13 => ?_)
  · refine lv_iconst (v := 0) C.1 C.2.1 d_BN_deviceFact_158 (by decide) ?_
    exact xri C hlk hr hP hS d_BN_deviceFact_159 ⟨by rw [f_BN_deviceFact, if_neg h1, if_neg h2, if_neg h3, if_neg h4, if_neg h5, if_neg h6, if_neg h8, if_neg h10, if_neg h11, if_pos h13], rfl⟩
  · refine lv_iconst (v := 1) C.1 C.2.1 d_BN_deviceFact_154 (by decide) ?_
    refine lv_goto (tgt := 159) C.1 C.2.1 d_BN_deviceFact_155 (by decide) ?_
    exact xri C hlk hr hP hS d_BN_deviceFact_159 ⟨by rw [f_BN_deviceFact, if_neg h1, if_neg h2, if_neg h3, if_neg h4, if_neg h5, if_neg h6, if_neg h8, if_neg h10, if_neg h11, if_neg h13], rfl⟩
