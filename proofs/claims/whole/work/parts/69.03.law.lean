section LQ3
variable {p : Program} {l : Launch} {e : Env} {s : State} {m : MethodId} {below : List Frame} {meth : Method} {c : Code} {H : Heap} {locs : List Loc} {cells slots : Nat} {Q : State → Prop}
variable {ls : Array Slot} {D : va_G} {cA : Nat → ClassId} {st mt : XS} {v : Int64} {b0 L b1 b2 o k : Nat} {xs : Nat → Int32}
set_option maxRecDepth 100000 in
set_option maxHeartbeats 4000000 in
theorem q_local (K : LC p l s m meth c D cA b0 L xs b1 b2 o) (hk : 6 * k + 5 < L) (hR : RR (100 * k) st mt) (hz : Rz mt) (hV : LV D cA s b1 b2 o st mt v H locs) (hl : lv_has ls 7 (LL b0 b1 b2 o k)) (hcs : cells + 1 ≤ 613765 ∧ slots + 6 ≤ 7254809)
    (kn : ∀ (st' mt' : XS) (v' : Int64) (H : Heap) (locs : List Loc) (ls : Array Slot), RR (100 * (k + 1)) st' mt' → Rz mt' → LV D cA s b1 b2 o st' mt' v' H locs → lv_has ls 7 (LL b0 b1 b2 o k) → W p l e room_1 s m #[.ref b0] below meth c H locs (cells + 1) (slots + 6) Q (F0 m 1332 ls [])) :
    W p l e room_1 s m #[.ref b0] below meth c H locs cells slots Q (F0 m 1081 ls []) := by
  have hb9 : 100 * k + 100 < 2147483647 := by have := K.2.2.2.2.2.2.2.2.2.1; omega
  have C := K.1
  refine lv_aload_n C.1 C.2.1 d_LA_law_1081 rfl (lv_at hl 1 rfl) ?_
  refine larg K hV hl (i0 := 0) (i4 := 4) rfl rfl (j := 1) rfl (by omega) d_LA_law_1082 d_LA_law_1083 d_LA_law_1085 d_LA_law_1086 d_LA_law_1087 ?_
  refine larg K hV hl (i0 := 0) (i4 := 4) rfl rfl (j := 2) rfl (by omega) d_LA_law_1088 d_LA_law_1089 d_LA_law_1091 d_LA_law_1092 d_LA_law_1093 ?_
  refine larg K hV hl (i0 := 0) (i4 := 4) rfl rfl (j := 3) rfl (by omega) d_LA_law_1094 d_LA_law_1095 d_LA_law_1097 d_LA_law_1098 d_LA_law_1099 ?_
  refine lnz (t1 := 1107) (t2 := 1108) C.1 C.2.1 d_LA_law_1100 (by decide) d_LA_law_1103 d_LA_law_1104 (by decide) d_LA_law_1107 rfl ?_
  refine lcB (rest := []) K hV hl.1 (k_BN_local l D cA b1 st (xs (6 * k + 1)) (xs (6 * k + 2)) (nzb (xs (6 * k + 3))) (nzb_z _)) q_BN_local rfl rfl wg_605 wg_606 wg_607 ⟨Nat.le_of_ble_eq_true rfl, Nat.le_of_ble_eq_true rfl⟩ ⟨by show cells ≤ 613765; omega, by show slots ≤ 7254809; omega⟩ c_BN rfl (Nat.zero_le _) d_LA_law_1108 rfl (fun H locs hV => ?_)
  refine lv_aload_n C.1 C.2.1 d_LA_law_1111 rfl (lv_at hl 2 rfl) ?_
  refine larg K hV hl (i0 := 0) (i4 := 4) rfl rfl (j := 1) rfl (by omega) d_LA_law_1112 d_LA_law_1113 d_LA_law_1115 d_LA_law_1116 d_LA_law_1117 ?_
  refine larg K hV hl (i0 := 0) (i4 := 4) rfl rfl (j := 2) rfl (by omega) d_LA_law_1118 d_LA_law_1119 d_LA_law_1121 d_LA_law_1122 d_LA_law_1123 ?_
  refine larg K hV hl (i0 := 0) (i4 := 4) rfl rfl (j := 3) rfl (by omega) d_LA_law_1124 d_LA_law_1125 d_LA_law_1127 d_LA_law_1128 d_LA_law_1129 ?_
  refine lnz (t1 := 1137) (t2 := 1138) C.1 C.2.1 d_LA_law_1130 (by decide) d_LA_law_1133 d_LA_law_1134 (by decide) d_LA_law_1137 rfl ?_
  refine lcM (rest := [.int _]) K hV hl.1 (k_MO_local l D cA b2 mt (xs (6 * k + 1)) (xs (6 * k + 2)) (nzb (xs (6 * k + 3))) hR.qok hR.cok hR.sst) q_MO_local rfl rfl wg_1234 wg_1235 wg_1236 ⟨Nat.le_of_ble_eq_true rfl, Nat.le_of_ble_eq_true rfl⟩ ⟨by show cells ≤ 613765; omega, by show slots ≤ 7254809; omega⟩ c_MO rfl (Nat.le_of_ble_eq_true rfl) d_LA_law_1138 rfl (fun H locs hV => ?_)
  obtain ⟨e1, e2, e3⟩ := eq_local hR hz (a1 := (xs (6 * k + 1))) (a2 := (xs (6 * k + 2))) (a3 := (nzb (xs (6 * k + 3))))
  refine lend K e1 d_LA_law_1141 (by decide) ?_
  refine W.widen (k := cells + 1) (n := slots + 6) (by omega) (by omega) ?_
  exact kn _ _ _ _ _ _ (e2.mono (by omega)) e3 hV hl
set_option maxRecDepth 100000 in
set_option maxHeartbeats 4000000 in
theorem q_restart (K : LC p l s m meth c D cA b0 L xs b1 b2 o) (hk : 6 * k + 5 < L) (hR : RR (100 * k) st mt) (hz : Rz mt) (hV : LV D cA s b1 b2 o st mt v H locs) (hl : lv_has ls 7 (LL b0 b1 b2 o k)) (hcs : cells + 1 ≤ 613765 ∧ slots + 6 ≤ 7254809)
    (kn : ∀ (st' mt' : XS) (v' : Int64) (H : Heap) (locs : List Loc) (ls : Array Slot), RR (100 * (k + 1)) st' mt' → Rz mt' → LV D cA s b1 b2 o st' mt' v' H locs → lv_has ls 7 (LL b0 b1 b2 o k) → W p l e room_1 s m #[.ref b0] below meth c H locs (cells + 1) (slots + 6) Q (F0 m 1332 ls [])) :
    W p l e room_1 s m #[.ref b0] below meth c H locs cells slots Q (F0 m 1146 ls []) := by
  have hb9 : 100 * k + 100 < 2147483647 := by have := K.2.2.2.2.2.2.2.2.2.1; omega
  have C := K.1
  refine lv_aload_n C.1 C.2.1 d_LA_law_1146 rfl (lv_at hl 1 rfl) ?_
  refine larg K hV hl (i0 := 0) (i4 := 4) rfl rfl (j := 1) rfl (by omega) d_LA_law_1147 d_LA_law_1148 d_LA_law_1150 d_LA_law_1151 d_LA_law_1152 ?_
  refine lcB (rest := []) K hV hl.1 (k_BN_restart l D cA b1 st (xs (6 * k + 1)) hR.dok) q_BN_restart rfl rfl wg_609 wg_610 wg_611 ⟨Nat.le_of_ble_eq_true rfl, Nat.le_of_ble_eq_true rfl⟩ ⟨by show cells ≤ 613765; omega, by show slots ≤ 7254809; omega⟩ c_BN rfl (Nat.zero_le _) d_LA_law_1153 rfl (fun H locs hV => ?_)
  refine lv_aload_n C.1 C.2.1 d_LA_law_1156 rfl (lv_at hl 2 rfl) ?_
  refine larg K hV hl (i0 := 0) (i4 := 4) rfl rfl (j := 1) rfl (by omega) d_LA_law_1157 d_LA_law_1158 d_LA_law_1160 d_LA_law_1161 d_LA_law_1162 ?_
  refine lcM (rest := [.int _]) K hV hl.1 (k_MO_restart l D cA b2 mt (xs (6 * k + 1)) hR.qok hR.cok) q_MO_restart rfl rfl wg_1238 wg_1239 wg_1240 ⟨Nat.le_of_ble_eq_true rfl, Nat.le_of_ble_eq_true rfl⟩ ⟨by show cells ≤ 613765; omega, by show slots ≤ 7254809; omega⟩ c_MO rfl (Nat.le_of_ble_eq_true rfl) d_LA_law_1163 rfl (fun H locs hV => ?_)
  obtain ⟨e1, e2, e3⟩ := eq_restart hR hz (a1 := (xs (6 * k + 1)))
  refine lend K e1 d_LA_law_1166 (by decide) ?_
  refine W.widen (k := cells + 1) (n := slots + 6) (by omega) (by omega) ?_
  exact kn _ _ _ _ _ _ (e2.mono (by omega)) e3 hV hl
set_option maxRecDepth 100000 in
set_option maxHeartbeats 4000000 in
theorem q_look (K : LC p l s m meth c D cA b0 L xs b1 b2 o) (hk : 6 * k + 5 < L) (hR : RR (100 * k) st mt) (hz : Rz mt) (hV : LV D cA s b1 b2 o st mt v H locs) (hl : lv_has ls 7 (LL b0 b1 b2 o k)) (hcs : cells + 1 ≤ 613765 ∧ slots + 6 ≤ 7254809)
    (kn : ∀ (st' mt' : XS) (v' : Int64) (H : Heap) (locs : List Loc) (ls : Array Slot), RR (100 * (k + 1)) st' mt' → Rz mt' → LV D cA s b1 b2 o st' mt' v' H locs → lv_has ls 7 (LL b0 b1 b2 o k) → W p l e room_1 s m #[.ref b0] below meth c H locs (cells + 1) (slots + 6) Q (F0 m 1332 ls [])) :
    W p l e room_1 s m #[.ref b0] below meth c H locs cells slots Q (F0 m 1171 ls []) := by
  have hb9 : 100 * k + 100 < 2147483647 := by have := K.2.2.2.2.2.2.2.2.2.1; omega
  have C := K.1
  refine lv_aload_n C.1 C.2.1 d_LA_law_1171 rfl (lv_at hl 1 rfl) ?_
  refine larg K hV hl (i0 := 0) (i4 := 4) rfl rfl (j := 1) rfl (by omega) d_LA_law_1172 d_LA_law_1173 d_LA_law_1175 d_LA_law_1176 d_LA_law_1177 ?_
  refine larg K hV hl (i0 := 0) (i4 := 4) rfl rfl (j := 2) rfl (by omega) d_LA_law_1178 d_LA_law_1179 d_LA_law_1181 d_LA_law_1182 d_LA_law_1183 ?_
  refine lv_aload_n C.1 C.2.1 d_LA_law_1184 rfl (lv_at hl 3 rfl) ?_
  refine lcW (rest := []) K hV hl.1 (kw_look l K.2.1 D cA b1 st (xs (6 * k + 1)) (xs (6 * k + 2)) hR.dok o v) ⟨rfl, rfl⟩ wc_look wg_0 ⟨by decide, by decide⟩ (n := 4) (by decide) wg_819 wg_820 ⟨Nat.le_of_ble_eq_true rfl, Nat.le_of_ble_eq_true rfl⟩ (by show cells + 1 ≤ 613765; omega) (by show slots + 6 ≤ 7254809; omega) rfl (Nat.zero_le _) d_LA_law_1185 rfl (fun H locs hV => ?_)
  refine lv_istore C.1 C.2.1 d_LA_law_1188 hl (by decide) rfl (fun ls hl => ?_)
  refine lv_aload_n C.1 C.2.1 d_LA_law_1190 rfl (lv_at hl 3 rfl) ?_
  refine larg K hV hl (i0 := 1) (i4 := 5) rfl rfl (j := 1) rfl (by omega) d_LA_law_1191 d_LA_law_1192 d_LA_law_1194 d_LA_law_1195 d_LA_law_1196 ?_
  refine larg K hV hl (i0 := 1) (i4 := 5) rfl rfl (j := 2) rfl (by omega) d_LA_law_1197 d_LA_law_1198 d_LA_law_1200 d_LA_law_1201 d_LA_law_1202 ?_
  refine lcM (rest := []) K hV hl.1 (k_MO_look l D cA b2 mt (xs (6 * k + 1)) (xs (6 * k + 2)) ) q_MO_look rfl rfl wg_1242 wg_1243 wg_1244 ⟨Nat.le_of_ble_eq_true rfl, Nat.le_of_ble_eq_true rfl⟩ ⟨by show cells + 1 ≤ 613765; omega, by show slots + 6 ≤ 7254809; omega⟩ c_MO rfl (Nat.le_of_ble_eq_true rfl) d_LA_law_1203 rfl (fun H locs hV => ?_)
  refine lv_istore C.1 C.2.1 d_LA_law_1206 hl (by decide) rfl (fun ls hl => ?_)
  obtain ⟨e1, e2, e3, e4⟩ := eq_look hR hz (a1 := (xs (6 * k + 1))) (a2 := (xs (6 * k + 2)))
  refine lendT (t1 := 1219) (t2 := 1236) K hV hl (i2 := 4) (i3 := 5) (i5 := 1) (i6 := 0) rfl rfl rfl rfl e1.symm (fun z => ?_) ⟨by show cells + 1 ≤ 613765; omega, by show slots + 6 ≤ 7254809; omega⟩ ⟨Nat.le_of_ble_eq_true rfl, Nat.le_of_ble_eq_true rfl⟩ d_LA_law_1208 d_LA_law_1209 d_LA_law_1212 d_LA_law_1214 (by decide) d_LA_law_1219 d_LA_law_1221 (by decide) d_LA_law_1224 d_LA_law_1225 d_LA_law_1226 d_LA_law_1227 d_LA_law_1229 d_LA_law_1230 d_LA_law_1231 (by decide) d_LA_law_1236 (by decide) (fun H locs hV => kn _ _ _ _ _ _ (e3.mono (by omega)) e4 hV (lv_sub hl [2, 3, 4, 5, 6] rfl))
  have z0 := wK0 z
  rw [← e2 z0]
  unfold wV
  exact if_pos z0
set_option maxRecDepth 100000 in
set_option maxHeartbeats 4000000 in
theorem q_message (K : LC p l s m meth c D cA b0 L xs b1 b2 o) (hk : 6 * k + 5 < L) (hR : RR (100 * k) st mt) (hz : Rz mt) (hV : LV D cA s b1 b2 o st mt v H locs) (hl : lv_has ls 7 (LL b0 b1 b2 o k)) (hcs : cells + 1 ≤ 613765 ∧ slots + 6 ≤ 7254809)
    (kn : ∀ (st' mt' : XS) (v' : Int64) (H : Heap) (locs : List Loc) (ls : Array Slot), RR (100 * (k + 1)) st' mt' → Rz mt' → LV D cA s b1 b2 o st' mt' v' H locs → lv_has ls 7 (LL b0 b1 b2 o k) → W p l e room_1 s m #[.ref b0] below meth c H locs (cells + 1) (slots + 6) Q (F0 m 1332 ls [])) :
    W p l e room_1 s m #[.ref b0] below meth c H locs cells slots Q (F0 m 1239 ls []) := by
  have hb9 : 100 * k + 100 < 2147483647 := by have := K.2.2.2.2.2.2.2.2.2.1; omega
  have C := K.1
  refine lv_aload_n C.1 C.2.1 d_LA_law_1239 rfl (lv_at hl 1 rfl) ?_
  refine larg K hV hl (i0 := 0) (i4 := 4) rfl rfl (j := 1) rfl (by omega) d_LA_law_1240 d_LA_law_1241 d_LA_law_1243 d_LA_law_1244 d_LA_law_1245 ?_
  refine larg K hV hl (i0 := 0) (i4 := 4) rfl rfl (j := 2) rfl (by omega) d_LA_law_1246 d_LA_law_1247 d_LA_law_1249 d_LA_law_1250 d_LA_law_1251 ?_
  refine lv_aload_n C.1 C.2.1 d_LA_law_1252 rfl (lv_at hl 3 rfl) ?_
  refine lcW (rest := []) K hV hl.1 (kw_message l K.2.1 D cA b1 st (xs (6 * k + 1)) (xs (6 * k + 2)) hR.pok o v) ⟨rfl, rfl⟩ wc_message wg_0 ⟨by decide, by decide⟩ (n := 4) (by decide) wg_855 wg_856 ⟨Nat.le_of_ble_eq_true rfl, Nat.le_of_ble_eq_true rfl⟩ (by show cells + 1 ≤ 613765; omega) (by show slots + 6 ≤ 7254809; omega) rfl (Nat.zero_le _) d_LA_law_1253 rfl (fun H locs hV => ?_)
  refine lv_istore C.1 C.2.1 d_LA_law_1256 hl (by decide) rfl (fun ls hl => ?_)
  refine lv_aload_n C.1 C.2.1 d_LA_law_1258 rfl (lv_at hl 3 rfl) ?_
  refine larg K hV hl (i0 := 1) (i4 := 5) rfl rfl (j := 1) rfl (by omega) d_LA_law_1259 d_LA_law_1260 d_LA_law_1262 d_LA_law_1263 d_LA_law_1264 ?_
  refine larg K hV hl (i0 := 1) (i4 := 5) rfl rfl (j := 2) rfl (by omega) d_LA_law_1265 d_LA_law_1266 d_LA_law_1268 d_LA_law_1269 d_LA_law_1270 ?_
  refine lcM (rest := []) K hV hl.1 (k_MO_message l D cA b2 mt (xs (6 * k + 1)) (xs (6 * k + 2)) hR.qok) q_MO_message rfl rfl wg_1258 wg_1259 wg_1260 ⟨Nat.le_of_ble_eq_true rfl, Nat.le_of_ble_eq_true rfl⟩ ⟨by show cells + 1 ≤ 613765; omega, by show slots + 6 ≤ 7254809; omega⟩ c_MO rfl (Nat.le_of_ble_eq_true rfl) d_LA_law_1271 rfl (fun H locs hV => ?_)
  refine lv_istore C.1 C.2.1 d_LA_law_1274 hl (by decide) rfl (fun ls hl => ?_)
  obtain ⟨e1, e2, e3, e4⟩ := eq_message hR hz (a1 := (xs (6 * k + 1))) (a2 := (xs (6 * k + 2)))
  refine lendT (t1 := 1287) (t2 := 1304) K hV hl (i2 := 4) (i3 := 5) (i5 := 1) (i6 := 0) rfl rfl rfl rfl e1.symm (fun z => ?_) ⟨by show cells + 1 ≤ 613765; omega, by show slots + 6 ≤ 7254809; omega⟩ ⟨Nat.le_of_ble_eq_true rfl, Nat.le_of_ble_eq_true rfl⟩ d_LA_law_1276 d_LA_law_1277 d_LA_law_1280 d_LA_law_1282 (by decide) d_LA_law_1287 d_LA_law_1289 (by decide) d_LA_law_1292 d_LA_law_1293 d_LA_law_1294 d_LA_law_1295 d_LA_law_1297 d_LA_law_1298 d_LA_law_1299 (by decide) d_LA_law_1304 (by decide) (fun H locs hV => kn _ _ _ _ _ _ (e3.mono (by omega)) e4 hV (lv_sub hl [2, 3, 4, 5, 6] rfl))
  have z0 := wK0 z
  rw [← e2 z0]
  unfold wV
  exact if_pos z0
set_option maxRecDepth 100000 in
set_option maxHeartbeats 4000000 in
theorem q_count (K : LC p l s m meth c D cA b0 L xs b1 b2 o) (hk : 6 * k + 5 < L) (hR : RR (100 * k) st mt) (hz : Rz mt) (hV : LV D cA s b1 b2 o st mt v H locs) (hl : lv_has ls 7 (LL b0 b1 b2 o k)) (hcs : cells + 1 ≤ 613765 ∧ slots + 6 ≤ 7254809)
    (kn : ∀ (st' mt' : XS) (v' : Int64) (H : Heap) (locs : List Loc) (ls : Array Slot), RR (100 * (k + 1)) st' mt' → Rz mt' → LV D cA s b1 b2 o st' mt' v' H locs → lv_has ls 7 (LL b0 b1 b2 o k) → W p l e room_1 s m #[.ref b0] below meth c H locs (cells + 1) (slots + 6) Q (F0 m 1332 ls [])) :
    W p l e room_1 s m #[.ref b0] below meth c H locs cells slots Q (F0 m 1307 ls []) := by
  have hb9 : 100 * k + 100 < 2147483647 := by have := K.2.2.2.2.2.2.2.2.2.1; omega
  have C := K.1
  refine lv_aload_n C.1 C.2.1 d_LA_law_1307 rfl (lv_at hl 1 rfl) ?_
  refine larg K hV hl (i0 := 0) (i4 := 4) rfl rfl (j := 1) rfl (by omega) d_LA_law_1308 d_LA_law_1309 d_LA_law_1311 d_LA_law_1312 d_LA_law_1313 ?_
  refine lcB (rest := []) K hV hl.1 (k_BN_count l D cA b1 st (xs (6 * k + 1)) hR.pok hR.dok hR.ocn.1.2) q_BN_count rfl rfl wg_625 wg_626 wg_627 ⟨Nat.le_of_ble_eq_true rfl, Nat.le_of_ble_eq_true rfl⟩ ⟨by show cells ≤ 613765; omega, by show slots ≤ 7254809; omega⟩ c_BN rfl (Nat.zero_le _) d_LA_law_1314 rfl (fun H locs hV => ?_)
  refine lv_aload_n C.1 C.2.1 d_LA_law_1317 rfl (lv_at hl 2 rfl) ?_
  refine larg K hV hl (i0 := 0) (i4 := 4) rfl rfl (j := 1) rfl (by omega) d_LA_law_1318 d_LA_law_1319 d_LA_law_1321 d_LA_law_1322 d_LA_law_1323 ?_
  refine lcM (rest := [.int _]) K hV hl.1 (k_MO_count l D cA b2 mt (xs (6 * k + 1)) hR.qok hR.ocn.2) q_MO_count rfl rfl wg_1262 wg_1263 wg_1264 ⟨Nat.le_of_ble_eq_true rfl, Nat.le_of_ble_eq_true rfl⟩ ⟨by show cells ≤ 613765; omega, by show slots ≤ 7254809; omega⟩ c_MO rfl (Nat.le_of_ble_eq_true rfl) d_LA_law_1324 rfl (fun H locs hV => ?_)
  obtain ⟨e1, e2⟩ := eq_count hR hz (a1 := (xs (6 * k + 1)))
  refine lend K e1 d_LA_law_1327 (by decide) ?_
  refine W.widen (k := cells + 1) (n := slots + 6) (by omega) (by omega) ?_
  rw [e2] at hV
  exact kn _ _ _ _ _ _ ((hR.th).mono (by omega)) hz.th hV hl
end LQ3
