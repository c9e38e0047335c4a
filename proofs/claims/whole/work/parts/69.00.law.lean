section LQ0
variable {p : Program} {l : Launch} {e : Env} {s : State} {m : MethodId} {below : List Frame} {meth : Method} {c : Code} {H : Heap} {locs : List Loc} {cells slots : Nat} {Q : State → Prop}
variable {ls : Array Slot} {D : va_G} {cA : Nat → ClassId} {st mt : XS} {v : Int64} {b0 L b1 b2 o k : Nat} {xs : Nat → Int32}
theorem wK0 {e1 ex : Nat} (h : wK e1 ex = 0) : ex = 0 := by
  unfold wK at h
  by_cases e : ex = 0
  · exact e
  · rw [if_neg e] at h
    split at h
    · exact absurd h (by decide)
    · exact absurd h (by decide)
set_option maxRecDepth 100000 in
set_option maxHeartbeats 4000000 in
theorem q_device (K : LC p l s m meth c D cA b0 L xs b1 b2 o) (hk : 6 * k + 5 < L) (hR : RR (100 * k) st mt) (hz : Rz mt) (hV : LV D cA s b1 b2 o st mt v H locs) (hl : lv_has ls 7 (LL b0 b1 b2 o k)) (hcs : cells + 1 ≤ 613765 ∧ slots + 6 ≤ 7254809)
    (kn : ∀ (st' mt' : XS) (v' : Int64) (H : Heap) (locs : List Loc) (ls : Array Slot), RR (100 * (k + 1)) st' mt' → Rz mt' → LV D cA s b1 b2 o st' mt' v' H locs → lv_has ls 7 (LL b0 b1 b2 o k) → W p l e room_1 s m #[.ref b0] below meth c H locs (cells + 1) (slots + 6) Q (F0 m 1332 ls [])) :
    W p l e room_1 s m #[.ref b0] below meth c H locs cells slots Q (F0 m 148 ls []) := by
  have hb9 : 100 * k + 100 < 2147483647 := by have := K.2.2.2.2.2.2.2.2.2.1; omega
  have C := K.1
  refine lv_aload_n C.1 C.2.1 d_LA_law_148 rfl (lv_at hl 1 rfl) ?_
  refine larg K hV hl (i0 := 0) (i4 := 4) rfl rfl (j := 1) rfl (by omega) d_LA_law_149 d_LA_law_150 d_LA_law_152 d_LA_law_153 d_LA_law_154 ?_
  refine larg K hV hl (i0 := 0) (i4 := 4) rfl rfl (j := 2) rfl (by omega) d_LA_law_155 d_LA_law_156 d_LA_law_158 d_LA_law_159 d_LA_law_160 ?_
  refine lcB (rest := []) K hV hl.1 (k_BN_device l D cA b1 st (xs (6 * k + 1)) (xs (6 * k + 2)) ) q_BN_device rfl rfl wg_406 wg_407 wg_408 ⟨Nat.le_of_ble_eq_true rfl, Nat.le_of_ble_eq_true rfl⟩ ⟨by show cells ≤ 613765; omega, by show slots ≤ 7254809; omega⟩ c_BN rfl (Nat.zero_le _) d_LA_law_161 rfl (fun H locs hV => ?_)
  refine lv_aload_n C.1 C.2.1 d_LA_law_164 rfl (lv_at hl 2 rfl) ?_
  refine larg K hV hl (i0 := 0) (i4 := 4) rfl rfl (j := 1) rfl (by omega) d_LA_law_165 d_LA_law_166 d_LA_law_168 d_LA_law_169 d_LA_law_170 ?_
  refine larg K hV hl (i0 := 0) (i4 := 4) rfl rfl (j := 2) rfl (by omega) d_LA_law_171 d_LA_law_172 d_LA_law_174 d_LA_law_175 d_LA_law_176 ?_
  refine lcM (rest := [.int _]) K hV hl.1 (k_MO_device l D cA b2 mt (xs (6 * k + 1)) (xs (6 * k + 2)) ) q_MO_device rfl rfl wg_1069 wg_1070 wg_1071 ⟨Nat.le_of_ble_eq_true rfl, Nat.le_of_ble_eq_true rfl⟩ ⟨by show cells ≤ 613765; omega, by show slots ≤ 7254809; omega⟩ c_MO rfl (Nat.le_of_ble_eq_true rfl) d_LA_law_177 rfl (fun H locs hV => ?_)
  obtain ⟨e1, e2, e3⟩ := eq_device hR hz (a1 := (xs (6 * k + 1))) (a2 := (xs (6 * k + 2)))
  refine lend K e1 d_LA_law_180 (by decide) ?_
  refine W.widen (k := cells + 1) (n := slots + 6) (by omega) (by omega) ?_
  exact kn _ _ _ _ _ _ (e2.mono (by omega)) e3 hV hl
set_option maxRecDepth 100000 in
set_option maxHeartbeats 4000000 in
theorem q_channel (K : LC p l s m meth c D cA b0 L xs b1 b2 o) (hk : 6 * k + 5 < L) (hR : RR (100 * k) st mt) (hz : Rz mt) (hV : LV D cA s b1 b2 o st mt v H locs) (hl : lv_has ls 7 (LL b0 b1 b2 o k)) (hcs : cells + 1 ≤ 613765 ∧ slots + 6 ≤ 7254809)
    (kn : ∀ (st' mt' : XS) (v' : Int64) (H : Heap) (locs : List Loc) (ls : Array Slot), RR (100 * (k + 1)) st' mt' → Rz mt' → LV D cA s b1 b2 o st' mt' v' H locs → lv_has ls 7 (LL b0 b1 b2 o k) → W p l e room_1 s m #[.ref b0] below meth c H locs (cells + 1) (slots + 6) Q (F0 m 1332 ls [])) :
    W p l e room_1 s m #[.ref b0] below meth c H locs cells slots Q (F0 m 185 ls []) := by
  have hb9 : 100 * k + 100 < 2147483647 := by have := K.2.2.2.2.2.2.2.2.2.1; omega
  have C := K.1
  refine lv_aload_n C.1 C.2.1 d_LA_law_185 rfl (lv_at hl 1 rfl) ?_
  refine larg K hV hl (i0 := 0) (i4 := 4) rfl rfl (j := 1) rfl (by omega) d_LA_law_186 d_LA_law_187 d_LA_law_189 d_LA_law_190 d_LA_law_191 ?_
  refine larg K hV hl (i0 := 0) (i4 := 4) rfl rfl (j := 2) rfl (by omega) d_LA_law_192 d_LA_law_193 d_LA_law_195 d_LA_law_196 d_LA_law_197 ?_
  refine larg K hV hl (i0 := 0) (i4 := 4) rfl rfl (j := 3) rfl (by omega) d_LA_law_198 d_LA_law_199 d_LA_law_201 d_LA_law_202 d_LA_law_203 ?_
  refine larg K hV hl (i0 := 0) (i4 := 4) rfl rfl (j := 4) rfl (by omega) d_LA_law_204 d_LA_law_205 d_LA_law_207 d_LA_law_208 d_LA_law_209 ?_
  refine larg K hV hl (i0 := 0) (i4 := 4) rfl rfl (j := 5) rfl (by omega) d_LA_law_210 d_LA_law_211 d_LA_law_213 d_LA_law_214 d_LA_law_215 ?_
  refine lv_aload_n C.1 C.2.1 d_LA_law_216 rfl (lv_at hl 3 rfl) ?_
  refine lcW (rest := []) K hV hl.1 (kw_channel l K.2.1 D cA b1 st (xs (6 * k + 1)) (xs (6 * k + 2)) (xs (6 * k + 3)) (xs (6 * k + 4)) (xs (6 * k + 5)) hR.dok0 o v) ⟨rfl, rfl⟩ wc_channel wg_0 ⟨by decide, by decide⟩ (n := 7) (by decide) wg_638 wg_639 ⟨Nat.le_of_ble_eq_true rfl, Nat.le_of_ble_eq_true rfl⟩ (by show cells + 1 ≤ 613765; omega) (by show slots + 6 ≤ 7254809; omega) rfl (Nat.zero_le _) d_LA_law_217 rfl (fun H locs hV => ?_)
  refine lv_istore C.1 C.2.1 d_LA_law_220 hl (by decide) rfl (fun ls hl => ?_)
  refine lv_aload_n C.1 C.2.1 d_LA_law_222 rfl (lv_at hl 3 rfl) ?_
  refine larg K hV hl (i0 := 1) (i4 := 5) rfl rfl (j := 1) rfl (by omega) d_LA_law_223 d_LA_law_224 d_LA_law_226 d_LA_law_227 d_LA_law_228 ?_
  refine larg K hV hl (i0 := 1) (i4 := 5) rfl rfl (j := 2) rfl (by omega) d_LA_law_229 d_LA_law_230 d_LA_law_232 d_LA_law_233 d_LA_law_234 ?_
  refine larg K hV hl (i0 := 1) (i4 := 5) rfl rfl (j := 3) rfl (by omega) d_LA_law_235 d_LA_law_236 d_LA_law_238 d_LA_law_239 d_LA_law_240 ?_
  refine larg K hV hl (i0 := 1) (i4 := 5) rfl rfl (j := 4) rfl (by omega) d_LA_law_241 d_LA_law_242 d_LA_law_244 d_LA_law_245 d_LA_law_246 ?_
  refine larg K hV hl (i0 := 1) (i4 := 5) rfl rfl (j := 5) rfl (by omega) d_LA_law_247 d_LA_law_248 d_LA_law_250 d_LA_law_251 d_LA_law_252 ?_
  refine lcM (rest := []) K hV hl.1 (k_MO_channel l D cA b2 mt (xs (6 * k + 1)) (xs (6 * k + 2)) (xs (6 * k + 3)) (xs (6 * k + 4)) (xs (6 * k + 5)) hR.cok) q_MO_channel rfl rfl wg_1079 wg_1080 wg_1081 ⟨Nat.le_of_ble_eq_true rfl, Nat.le_of_ble_eq_true rfl⟩ ⟨by show cells + 1 ≤ 613765; omega, by show slots + 6 ≤ 7254809; omega⟩ c_MO rfl (Nat.le_of_ble_eq_true rfl) d_LA_law_253 rfl (fun H locs hV => ?_)
  refine lv_istore C.1 C.2.1 d_LA_law_256 hl (by decide) rfl (fun ls hl => ?_)
  obtain ⟨e1, e2, e3, e4⟩ := eq_channel hR hz (a1 := (xs (6 * k + 1))) (a2 := (xs (6 * k + 2))) (a3 := (xs (6 * k + 3))) (a4 := (xs (6 * k + 4))) (a5 := (xs (6 * k + 5)))
  refine lendT (t1 := 269) (t2 := 286) K hV hl (i2 := 4) (i3 := 5) (i5 := 1) (i6 := 0) rfl rfl rfl rfl e1.symm (fun z => ?_) ⟨by show cells + 1 ≤ 613765; omega, by show slots + 6 ≤ 7254809; omega⟩ ⟨Nat.le_of_ble_eq_true rfl, Nat.le_of_ble_eq_true rfl⟩ d_LA_law_258 d_LA_law_259 d_LA_law_262 d_LA_law_264 (by decide) d_LA_law_269 d_LA_law_271 (by decide) d_LA_law_274 d_LA_law_275 d_LA_law_276 d_LA_law_277 d_LA_law_279 d_LA_law_280 d_LA_law_281 (by decide) d_LA_law_286 (by decide) (fun H locs hV => kn _ _ _ _ _ _ (e3.mono (by omega)) e4 hV (lv_sub hl [2, 3, 4, 5, 6] rfl))
  have z0 := wK0 z
  rw [← e2 z0]
  unfold wV
  exact if_pos z0
set_option maxRecDepth 100000 in
set_option maxHeartbeats 4000000 in
theorem q_alarm (K : LC p l s m meth c D cA b0 L xs b1 b2 o) (hk : 6 * k + 5 < L) (hR : RR (100 * k) st mt) (hz : Rz mt) (hV : LV D cA s b1 b2 o st mt v H locs) (hl : lv_has ls 7 (LL b0 b1 b2 o k)) (hcs : cells + 1 ≤ 613765 ∧ slots + 6 ≤ 7254809)
    (kn : ∀ (st' mt' : XS) (v' : Int64) (H : Heap) (locs : List Loc) (ls : Array Slot), RR (100 * (k + 1)) st' mt' → Rz mt' → LV D cA s b1 b2 o st' mt' v' H locs → lv_has ls 7 (LL b0 b1 b2 o k) → W p l e room_1 s m #[.ref b0] below meth c H locs (cells + 1) (slots + 6) Q (F0 m 1332 ls [])) :
    W p l e room_1 s m #[.ref b0] below meth c H locs cells slots Q (F0 m 289 ls []) := by
  have hb9 : 100 * k + 100 < 2147483647 := by have := K.2.2.2.2.2.2.2.2.2.1; omega
  have C := K.1
  refine lv_aload_n C.1 C.2.1 d_LA_law_289 rfl (lv_at hl 1 rfl) ?_
  refine larg K hV hl (i0 := 0) (i4 := 4) rfl rfl (j := 1) rfl (by omega) d_LA_law_290 d_LA_law_291 d_LA_law_293 d_LA_law_294 d_LA_law_295 ?_
  refine larg K hV hl (i0 := 0) (i4 := 4) rfl rfl (j := 2) rfl (by omega) d_LA_law_296 d_LA_law_297 d_LA_law_299 d_LA_law_300 d_LA_law_301 ?_
  refine larg K hV hl (i0 := 0) (i4 := 4) rfl rfl (j := 3) rfl (by omega) d_LA_law_302 d_LA_law_303 d_LA_law_305 d_LA_law_306 d_LA_law_307 ?_
  refine larg K hV hl (i0 := 0) (i4 := 4) rfl rfl (j := 4) rfl (by omega) d_LA_law_308 d_LA_law_309 d_LA_law_311 d_LA_law_312 d_LA_law_313 ?_
  refine larg K hV hl (i0 := 0) (i4 := 4) rfl rfl (j := 5) rfl (by omega) d_LA_law_314 d_LA_law_315 d_LA_law_317 d_LA_law_318 d_LA_law_319 ?_
  refine lcB (rest := []) K hV hl.1 (k_BN_alarm l D cA b1 st (xs (6 * k + 1)) (xs (6 * k + 2)) (xs (6 * k + 3)) (xs (6 * k + 4)) (xs (6 * k + 5)) hR.dok) q_BN_alarm rfl rfl wg_420 wg_421 wg_422 ⟨Nat.le_of_ble_eq_true rfl, Nat.le_of_ble_eq_true rfl⟩ ⟨by show cells ≤ 613765; omega, by show slots ≤ 7254809; omega⟩ c_BN rfl (Nat.zero_le _) d_LA_law_320 rfl (fun H locs hV => ?_)
  refine lv_aload_n C.1 C.2.1 d_LA_law_323 rfl (lv_at hl 2 rfl) ?_
  refine larg K hV hl (i0 := 0) (i4 := 4) rfl rfl (j := 1) rfl (by omega) d_LA_law_324 d_LA_law_325 d_LA_law_327 d_LA_law_328 d_LA_law_329 ?_
  refine larg K hV hl (i0 := 0) (i4 := 4) rfl rfl (j := 2) rfl (by omega) d_LA_law_330 d_LA_law_331 d_LA_law_333 d_LA_law_334 d_LA_law_335 ?_
  refine larg K hV hl (i0 := 0) (i4 := 4) rfl rfl (j := 3) rfl (by omega) d_LA_law_336 d_LA_law_337 d_LA_law_339 d_LA_law_340 d_LA_law_341 ?_
  refine larg K hV hl (i0 := 0) (i4 := 4) rfl rfl (j := 4) rfl (by omega) d_LA_law_342 d_LA_law_343 d_LA_law_345 d_LA_law_346 d_LA_law_347 ?_
  refine larg K hV hl (i0 := 0) (i4 := 4) rfl rfl (j := 5) rfl (by omega) d_LA_law_348 d_LA_law_349 d_LA_law_351 d_LA_law_352 d_LA_law_353 ?_
  refine lcM (rest := [.int _]) K hV hl.1 (k_MO_alarm l D cA b2 mt (xs (6 * k + 1)) (xs (6 * k + 2)) (xs (6 * k + 3)) (xs (6 * k + 4)) (xs (6 * k + 5)) hR.cok) q_MO_alarm rfl rfl wg_1095 wg_1096 wg_1097 ⟨Nat.le_of_ble_eq_true rfl, Nat.le_of_ble_eq_true rfl⟩ ⟨by show cells ≤ 613765; omega, by show slots ≤ 7254809; omega⟩ c_MO rfl (Nat.le_of_ble_eq_true rfl) d_LA_law_354 rfl (fun H locs hV => ?_)
  obtain ⟨e1, e2, e3⟩ := eq_alarm hR hz (a1 := (xs (6 * k + 1))) (a2 := (xs (6 * k + 2))) (a3 := (xs (6 * k + 3))) (a4 := (xs (6 * k + 4))) (a5 := (xs (6 * k + 5)))
  refine lend K e1 d_LA_law_357 (by decide) ?_
  refine W.widen (k := cells + 1) (n := slots + 6) (by omega) (by omega) ?_
  exact kn _ _ _ _ _ _ (e2.mono (by omega)) e3 hV hl
set_option maxRecDepth 100000 in
set_option maxHeartbeats 4000000 in
theorem q_setPoint (K : LC p l s m meth c D cA b0 L xs b1 b2 o) (hk : 6 * k + 5 < L) (hR : RR (100 * k) st mt) (hz : Rz mt) (hV : LV D cA s b1 b2 o st mt v H locs) (hl : lv_has ls 7 (LL b0 b1 b2 o k)) (hcs : cells + 1 ≤ 613765 ∧ slots + 6 ≤ 7254809)
    (kn : ∀ (st' mt' : XS) (v' : Int64) (H : Heap) (locs : List Loc) (ls : Array Slot), RR (100 * (k + 1)) st' mt' → Rz mt' → LV D cA s b1 b2 o st' mt' v' H locs → lv_has ls 7 (LL b0 b1 b2 o k) → W p l e room_1 s m #[.ref b0] below meth c H locs (cells + 1) (slots + 6) Q (F0 m 1332 ls [])) :
    W p l e room_1 s m #[.ref b0] below meth c H locs cells slots Q (F0 m 362 ls []) := by
  have hb9 : 100 * k + 100 < 2147483647 := by have := K.2.2.2.2.2.2.2.2.2.1; omega
  have C := K.1
  refine lv_aload_n C.1 C.2.1 d_LA_law_362 rfl (lv_at hl 1 rfl) ?_
  refine larg K hV hl (i0 := 0) (i4 := 4) rfl rfl (j := 1) rfl (by omega) d_LA_law_363 d_LA_law_364 d_LA_law_366 d_LA_law_367 d_LA_law_368 ?_
  refine larg K hV hl (i0 := 0) (i4 := 4) rfl rfl (j := 2) rfl (by omega) d_LA_law_369 d_LA_law_370 d_LA_law_372 d_LA_law_373 d_LA_law_374 ?_
  refine larg K hV hl (i0 := 0) (i4 := 4) rfl rfl (j := 3) rfl (by omega) d_LA_law_375 d_LA_law_376 d_LA_law_378 d_LA_law_379 d_LA_law_380 ?_
  refine larg K hV hl (i0 := 0) (i4 := 4) rfl rfl (j := 4) rfl (by omega) d_LA_law_381 d_LA_law_382 d_LA_law_384 d_LA_law_385 d_LA_law_386 ?_
  refine lcB (rest := []) K hV hl.1 (k_BN_setPoint l D cA b1 st (xs (6 * k + 1)) (xs (6 * k + 2)) (xs (6 * k + 3)) (xs (6 * k + 4)) ) q_BN_setPoint rfl rfl wg_444 wg_445 wg_446 ⟨Nat.le_of_ble_eq_true rfl, Nat.le_of_ble_eq_true rfl⟩ ⟨by show cells ≤ 613765; omega, by show slots ≤ 7254809; omega⟩ c_BN rfl (Nat.zero_le _) d_LA_law_387 rfl (fun H locs hV => ?_)
  refine lv_aload_n C.1 C.2.1 d_LA_law_390 rfl (lv_at hl 2 rfl) ?_
  refine larg K hV hl (i0 := 0) (i4 := 4) rfl rfl (j := 1) rfl (by omega) d_LA_law_391 d_LA_law_392 d_LA_law_394 d_LA_law_395 d_LA_law_396 ?_
  refine larg K hV hl (i0 := 0) (i4 := 4) rfl rfl (j := 2) rfl (by omega) d_LA_law_397 d_LA_law_398 d_LA_law_400 d_LA_law_401 d_LA_law_402 ?_
  refine larg K hV hl (i0 := 0) (i4 := 4) rfl rfl (j := 3) rfl (by omega) d_LA_law_403 d_LA_law_404 d_LA_law_406 d_LA_law_407 d_LA_law_408 ?_
  refine larg K hV hl (i0 := 0) (i4 := 4) rfl rfl (j := 4) rfl (by omega) d_LA_law_409 d_LA_law_410 d_LA_law_412 d_LA_law_413 d_LA_law_414 ?_
  refine lcM (rest := [.int _]) K hV hl.1 (k_MO_setPoint l D cA b2 mt (xs (6 * k + 1)) (xs (6 * k + 2)) (xs (6 * k + 3)) (xs (6 * k + 4)) ) q_MO_setPoint rfl rfl wg_1103 wg_1104 wg_1105 ⟨Nat.le_of_ble_eq_true rfl, Nat.le_of_ble_eq_true rfl⟩ ⟨by show cells ≤ 613765; omega, by show slots ≤ 7254809; omega⟩ c_MO rfl (Nat.le_of_ble_eq_true rfl) d_LA_law_415 rfl (fun H locs hV => ?_)
  obtain ⟨e1, e2, e3⟩ := eq_setPoint hR hz (a1 := (xs (6 * k + 1))) (a2 := (xs (6 * k + 2))) (a3 := (xs (6 * k + 3))) (a4 := (xs (6 * k + 4)))
  refine lend K e1 d_LA_law_418 (by decide) ?_
  refine W.widen (k := cells + 1) (n := slots + 6) (by omega) (by omega) ?_
  exact kn _ _ _ _ _ _ (e2.mono (by omega)) e3 hV hl
set_option maxRecDepth 100000 in
set_option maxHeartbeats 4000000 in
theorem q_seal (K : LC p l s m meth c D cA b0 L xs b1 b2 o) (hk : 6 * k + 5 < L) (hR : RR (100 * k) st mt) (hz : Rz mt) (hV : LV D cA s b1 b2 o st mt v H locs) (hl : lv_has ls 7 (LL b0 b1 b2 o k)) (hcs : cells + 1 ≤ 613765 ∧ slots + 6 ≤ 7254809)
    (kn : ∀ (st' mt' : XS) (v' : Int64) (H : Heap) (locs : List Loc) (ls : Array Slot), RR (100 * (k + 1)) st' mt' → Rz mt' → LV D cA s b1 b2 o st' mt' v' H locs → lv_has ls 7 (LL b0 b1 b2 o k) → W p l e room_1 s m #[.ref b0] below meth c H locs (cells + 1) (slots + 6) Q (F0 m 1332 ls [])) :
    W p l e room_1 s m #[.ref b0] below meth c H locs cells slots Q (F0 m 423 ls []) := by
  have hb9 : 100 * k + 100 < 2147483647 := by have := K.2.2.2.2.2.2.2.2.2.1; omega
  have C := K.1
  refine lv_aload_n C.1 C.2.1 d_LA_law_423 rfl (lv_at hl 1 rfl) ?_
  refine larg K hV hl (i0 := 0) (i4 := 4) rfl rfl (j := 1) rfl (by omega) d_LA_law_424 d_LA_law_425 d_LA_law_427 d_LA_law_428 d_LA_law_429 ?_
  refine lcB (rest := []) K hV hl.1 (k_BN_seal l D cA b1 st (xs (6 * k + 1)) ) q_BN_seal rfl rfl wg_459 wg_460 wg_461 ⟨Nat.le_of_ble_eq_true rfl, Nat.le_of_ble_eq_true rfl⟩ ⟨by show cells ≤ 613765; omega, by show slots ≤ 7254809; omega⟩ c_BN rfl (Nat.zero_le _) d_LA_law_430 rfl (fun H locs hV => ?_)
  refine lv_aload_n C.1 C.2.1 d_LA_law_433 rfl (lv_at hl 2 rfl) ?_
  refine larg K hV hl (i0 := 0) (i4 := 4) rfl rfl (j := 1) rfl (by omega) d_LA_law_434 d_LA_law_435 d_LA_law_437 d_LA_law_438 d_LA_law_439 ?_
  refine lcM (rest := [.int _]) K hV hl.1 (k_MO_seal l D cA b2 mt (xs (6 * k + 1)) ) q_MO_seal rfl rfl wg_1107 wg_1108 wg_1109 ⟨Nat.le_of_ble_eq_true rfl, Nat.le_of_ble_eq_true rfl⟩ ⟨by show cells ≤ 613765; omega, by show slots ≤ 7254809; omega⟩ c_MO rfl (Nat.le_of_ble_eq_true rfl) d_LA_law_440 rfl (fun H locs hV => ?_)
  obtain ⟨e1, e2, e3⟩ := eq_seal hR hz (a1 := (xs (6 * k + 1)))
  refine lend K e1 d_LA_law_443 (by decide) ?_
  refine W.widen (k := cells + 1) (n := slots + 6) (by omega) (by omega) ?_
  exact kn _ _ _ _ _ _ (e2.mono (by omega)) e3 hV hl
set_option maxRecDepth 100000 in
set_option maxHeartbeats 4000000 in
theorem q_move (K : LC p l s m meth c D cA b0 L xs b1 b2 o) (hk : 6 * k + 5 < L) (hR : RR (100 * k) st mt) (hz : Rz mt) (hV : LV D cA s b1 b2 o st mt v H locs) (hl : lv_has ls 7 (LL b0 b1 b2 o k)) (hcs : cells + 1 ≤ 613765 ∧ slots + 6 ≤ 7254809)
    (kn : ∀ (st' mt' : XS) (v' : Int64) (H : Heap) (locs : List Loc) (ls : Array Slot), RR (100 * (k + 1)) st' mt' → Rz mt' → LV D cA s b1 b2 o st' mt' v' H locs → lv_has ls 7 (LL b0 b1 b2 o k) → W p l e room_1 s m #[.ref b0] below meth c H locs (cells + 1) (slots + 6) Q (F0 m 1332 ls [])) :
    W p l e room_1 s m #[.ref b0] below meth c H locs cells slots Q (F0 m 448 ls []) := by
  have hb9 : 100 * k + 100 < 2147483647 := by have := K.2.2.2.2.2.2.2.2.2.1; omega
  have C := K.1
  refine lv_aload_n C.1 C.2.1 d_LA_law_448 rfl (lv_at hl 1 rfl) ?_
  refine larg K hV hl (i0 := 0) (i4 := 4) rfl rfl (j := 1) rfl (by omega) d_LA_law_449 d_LA_law_450 d_LA_law_452 d_LA_law_453 d_LA_law_454 ?_
  refine larg K hV hl (i0 := 0) (i4 := 4) rfl rfl (j := 2) rfl (by omega) d_LA_law_455 d_LA_law_456 d_LA_law_458 d_LA_law_459 d_LA_law_460 ?_
  refine lcB (rest := []) K hV hl.1 (k_BN_move l D cA b1 st (xs (6 * k + 1)) (xs (6 * k + 2)) ) q_BN_move rfl rfl wg_463 wg_464 wg_465 ⟨Nat.le_of_ble_eq_true rfl, Nat.le_of_ble_eq_true rfl⟩ ⟨by show cells ≤ 613765; omega, by show slots ≤ 7254809; omega⟩ c_BN rfl (Nat.zero_le _) d_LA_law_461 rfl (fun H locs hV => ?_)
  refine lv_aload_n C.1 C.2.1 d_LA_law_464 rfl (lv_at hl 2 rfl) ?_
  refine larg K hV hl (i0 := 0) (i4 := 4) rfl rfl (j := 1) rfl (by omega) d_LA_law_465 d_LA_law_466 d_LA_law_468 d_LA_law_469 d_LA_law_470 ?_
  refine larg K hV hl (i0 := 0) (i4 := 4) rfl rfl (j := 2) rfl (by omega) d_LA_law_471 d_LA_law_472 d_LA_law_474 d_LA_law_475 d_LA_law_476 ?_
  refine lcM (rest := [.int _]) K hV hl.1 (k_MO_move l D cA b2 mt (xs (6 * k + 1)) (xs (6 * k + 2)) hR.qok hR.cok) q_MO_move rfl rfl wg_1111 wg_1112 wg_1113 ⟨Nat.le_of_ble_eq_true rfl, Nat.le_of_ble_eq_true rfl⟩ ⟨by show cells ≤ 613765; omega, by show slots ≤ 7254809; omega⟩ c_MO rfl (Nat.le_of_ble_eq_true rfl) d_LA_law_477 rfl (fun H locs hV => ?_)
  obtain ⟨e1, e2, e3⟩ := eq_move hR hz (a1 := (xs (6 * k + 1))) (a2 := (xs (6 * k + 2)))
  refine lend K e1 d_LA_law_480 (by decide) ?_
  refine W.widen (k := cells + 1) (n := slots + 6) (by omega) (by omega) ?_
  exact kn _ _ _ _ _ _ (e2.mono (by omega)) e3 hV hl
end LQ0
