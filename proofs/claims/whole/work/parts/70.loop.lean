section LQL
variable {p : Program} {l : Launch} {e : Env} {s : State} {m : MethodId} {below : List Frame} {meth : Method} {c : Code} {Q : State → Prop}
variable {D : va_G} {cA : Nat → ClassId} {b0 L b1 b2 o : Nat} {xs : Nat → Int32}

set_option maxRecDepth 100000 in
set_option maxHeartbeats 4000000 in
theorem q_all {H : Heap} {locs : List Loc} {cells slots : Nat} {ls : Array Slot} {st mt : XS} {v : Int64} {k : Nat} (K : LC p l s m meth c D cA b0 L xs b1 b2 o) (hk : 6 * k + 5 < L) (hR : RR (100 * k) st mt) (hz : Rz mt) (hV : LV D cA s b1 b2 o st mt v H locs) (hl : lv_has ls 7 (LL b0 b1 b2 o k)) (hcs : cells + 1 ≤ 613765 ∧ slots + 6 ≤ 7254809)
    (kn : ∀ (st' mt' : XS) (v' : Int64) (H : Heap) (locs : List Loc) (ls : Array Slot), RR (100 * (k + 1)) st' mt' → Rz mt' → LV D cA s b1 b2 o st' mt' v' H locs → lv_has ls 7 (LL b0 b1 b2 o k) → W p l e room_1 s m #[.ref b0] below meth c H locs (cells + 1) (slots + 6) Q (F0 m 1332 ls [])) :
    ∀ (j : Nat), j < 32 → W p l e room_1 s m #[.ref b0] below meth c H locs cells slots Q (F0 m 40 ls [.int (nI j)]) := by
  intro j hj
  have C := K.1
  by_cases h22 : j < 23
  · revert j hj
    suffices hall : ∀ j, j < 23 → W p l e room_1 s m #[.ref b0] below meth c H locs cells slots Q (F0 m 40 ls [.int (nI j)]) from fun j _ h => hall j h
    refine lt_s (i := 22) ?_ (lv_tableIn (tgt := 1307) C.1 C.2.1 d_LA_law_40 (by decide) (by decide) rfl (by decide) (q_count K hk hR hz hV hl hcs kn))
    refine lt_s (i := 21) ?_ (lv_tableIn (tgt := 1239) C.1 C.2.1 d_LA_law_40 (by decide) (by decide) rfl (by decide) (q_message K hk hR hz hV hl hcs kn))
    refine lt_s (i := 20) ?_ (lv_tableIn (tgt := 1171) C.1 C.2.1 d_LA_law_40 (by decide) (by decide) rfl (by decide) (q_look K hk hR hz hV hl hcs kn))
    refine lt_s (i := 19) ?_ (lv_tableIn (tgt := 1146) C.1 C.2.1 d_LA_law_40 (by decide) (by decide) rfl (by decide) (q_restart K hk hR hz hV hl hcs kn))
    refine lt_s (i := 18) ?_ (lv_tableIn (tgt := 1081) C.1 C.2.1 d_LA_law_40 (by decide) (by decide) rfl (by decide) (q_local K hk hR hz hV hl hcs kn))
    refine lt_s (i := 17) ?_ (lv_tableIn (tgt := 989) C.1 C.2.1 d_LA_law_40 (by decide) (by decide) rfl (by decide) (q_order K hk hR hz hV hl hcs kn))
    refine lt_s (i := 16) ?_ (lv_tableIn (tgt := 952) C.1 C.2.1 d_LA_law_40 (by decide) (by decide) rfl (by decide) (q_lease K hk hR hz hV hl hcs kn))
    refine lt_s (i := 15) ?_ (lv_tableIn (tgt := 903) C.1 C.2.1 d_LA_law_40 (by decide) (by decide) rfl (by decide) (q_inhibit K hk hR hz hV hl hcs kn))
    refine lt_s (i := 14) ?_ (lv_tableIn (tgt := 866) C.1 C.2.1 d_LA_law_40 (by decide) (by decide) rfl (by decide) (q_acknowledge K hk hR hz hV hl hcs kn))
    refine lt_s (i := 13) ?_ (lv_tableIn (tgt := 798) C.1 C.2.1 d_LA_law_40 (by decide) (by decide) rfl (by decide) (q_shown K hk hR hz hV hl hcs kn))
    refine lt_s (i := 12) ?_ (lv_tableIn (tgt := 730) C.1 C.2.1 d_LA_law_40 (by decide) (by decide) rfl (by decide) (q_bind K hk hR hz hV hl hcs kn))
    refine lt_s (i := 11) ?_ (lv_tableIn (tgt := 705) C.1 C.2.1 d_LA_law_40 (by decide) (by decide) rfl (by decide) (q_drop K hk hR hz hV hl hcs kn))
    refine lt_s (i := 10) ?_ (lv_tableIn (tgt := 652) C.1 C.2.1 d_LA_law_40 (by decide) (by decide) rfl (by decide) (q_carry K hk hR hz hV hl hcs kn))
    refine lt_s (i := 9) ?_ (lv_tableIn (tgt := 596) C.1 C.2.1 d_LA_law_40 (by decide) (by decide) rfl (by decide) (q_tick K hk hR hz hV hl hcs kn))
    refine lt_s (i := 8) ?_ (lv_tableIn (tgt := 547) C.1 C.2.1 d_LA_law_40 (by decide) (by decide) rfl (by decide) (q_sample K hk hR hz hV hl hcs kn))
    refine lt_s (i := 7) ?_ (lv_tableIn (tgt := 522) C.1 C.2.1 d_LA_law_40 (by decide) (by decide) rfl (by decide) (q_confirm K hk hR hz hV hl hcs kn))
    refine lt_s (i := 6) ?_ (lv_tableIn (tgt := 485) C.1 C.2.1 d_LA_law_40 (by decide) (by decide) rfl (by decide) (q_patient K hk hR hz hV hl hcs kn))
    refine lt_s (i := 5) ?_ (lv_tableIn (tgt := 448) C.1 C.2.1 d_LA_law_40 (by decide) (by decide) rfl (by decide) (q_move K hk hR hz hV hl hcs kn))
    refine lt_s (i := 4) ?_ (lv_tableIn (tgt := 423) C.1 C.2.1 d_LA_law_40 (by decide) (by decide) rfl (by decide) (q_seal K hk hR hz hV hl hcs kn))
    refine lt_s (i := 3) ?_ (lv_tableIn (tgt := 362) C.1 C.2.1 d_LA_law_40 (by decide) (by decide) rfl (by decide) (q_setPoint K hk hR hz hV hl hcs kn))
    refine lt_s (i := 2) ?_ (lv_tableIn (tgt := 289) C.1 C.2.1 d_LA_law_40 (by decide) (by decide) rfl (by decide) (q_alarm K hk hR hz hV hl hcs kn))
    refine lt_s (i := 1) ?_ (lv_tableIn (tgt := 185) C.1 C.2.1 d_LA_law_40 (by decide) (by decide) rfl (by decide) (q_channel K hk hR hz hV hl hcs kn))
    refine lt_s (i := 0) ?_ (lv_tableIn (tgt := 148) C.1 C.2.1 d_LA_law_40 (by decide) (by decide) rfl (by decide) (q_device K hk hR hz hV hl hcs kn))
    exact lt_0
  · refine lv_tableOut (tgt := 1332) C.1 C.2.1 d_LA_law_40 (Or.inr (by rw [nI_toInt (by omega)]; omega)) (by decide) ?_
    refine W.widen (k := cells + 1) (n := slots + 6) (by omega) (by omega) ?_
    exact kn _ _ _ _ _ _ (hR.mono (by omega)) hz hV hl
theorem nI_6 (k : Nat) : nI (6 * k) + Int32.ofInt 6 = nI (6 * (k + 1)) := by
  rw [show (Int32.ofInt 6 : Int32) = nI 6 from rfl, nI_add]
  rfl
set_option maxRecDepth 100000 in
set_option maxHeartbeats 4000000 in
theorem q_loop (K : LC p l s m meth c D cA b0 L xs b1 b2 o) (kx : ∀ (H : Heap) (locs : List Loc) (ls : Array Slot) (cells slots : Nat), va_S (LA0 s) s.heap H locs → cells ≤ 613765 → slots ≤ 7254809 → W p l e room_1 s m #[.ref b0] below meth c H locs cells slots Q (F0 m 1338 ls [])) :
    ∀ (n k : Nat) (st mt : XS) (v : Int64) (H : Heap) (locs : List Loc) (ls : Array Slot) (cells slots : Nat), k + n = 513 → RR (100 * k) st mt → Rz mt → LV D cA s b1 b2 o st mt v H locs → lv_has ls 7 (LL b0 b1 b2 o k) → cells + n ≤ 613765 → slots + 6 * n ≤ 7254809 → W p l e room_1 s m #[.ref b0] below meth c H locs cells slots Q (F0 m 23 ls []) := by
  have C := K.1
  have hX := K.2.2.2.2.2.2.2.1
  have hbl := K.2.2.2.2.2.2.2.2.1
  have hL := K.2.2.2.2.2.2.2.2.2.1
  have hb0 : ¬ LA0 s b0 := fun z => by unfold LA0 at z; omega
  intro n
  induction n with
  | zero =>
    intro k st mt v H locs ls cells slots hkn hR hz hV hl hc hs
    refine lv_iload C.1 C.2.1 d_LA_law_23 (lv_at hl 4 rfl) ?_
    refine lv_aload_n C.1 C.2.1 d_LA_law_25 rfl (lv_at hl 0 rfl) ?_
    refine va_slen (A := LA0 s) C.1 C.2.1 hX hbl hb0 hV.2.2.2 d_LA_law_26 ?_
    refine lv_bipush (v := 6) C.1 C.2.1 d_LA_law_27 (by decide) ?_
    refine lv_isub C.1 C.2.1 d_LA_law_29 ?_
    refine lv_icmp_gt (tgt := 1338) C.1 C.2.1 d_LA_law_30 (by decide) (fun _ => kx H locs ls cells slots hV.2.2.2 (by omega) (by omega)) (fun hg => ?_)
    exfalso
    have h1 : (Int32.ofNat L - 6).toInt = (L : Int) - 6 := by
      have := nI_toInt (n := L) (by omega)
      unfold nI at this
      rw [Int32.toInt_sub, this, show (6 : Int32).toInt = 6 from by decide, Int.bmod_eq_of_le (by omega) (by omega)]
    have h2 := nI_toInt (n := 6 * k) (by omega)
    rw [i32_lt, h1, h2] at hg
    omega
  | succ n ih =>
    intro k st mt v H locs ls cells slots hkn hR hz hV hl hc hs
    refine lv_iload C.1 C.2.1 d_LA_law_23 (lv_at hl 4 rfl) ?_
    refine lv_aload_n C.1 C.2.1 d_LA_law_25 rfl (lv_at hl 0 rfl) ?_
    refine va_slen (A := LA0 s) C.1 C.2.1 hX hbl hb0 hV.2.2.2 d_LA_law_26 ?_
    refine lv_bipush (v := 6) C.1 C.2.1 d_LA_law_27 (by decide) ?_
    refine lv_isub C.1 C.2.1 d_LA_law_29 ?_
    refine lv_icmp_gt (tgt := 1338) C.1 C.2.1 d_LA_law_30 (by decide) (fun _ => kx H locs ls cells slots hV.2.2.2 (by omega) (by omega)) (fun hg => ?_)
    have h1 : (Int32.ofNat L - 6).toInt = (L : Int) - 6 := by
      have := nI_toInt (n := L) (by omega)
      unfold nI at this
      rw [Int32.toInt_sub, this, show (6 : Int32).toInt = 6 from by decide, Int.bmod_eq_of_le (by omega) (by omega)]
    have h2 := nI_toInt (n := 6 * k) (by omega)
    rw [i32_lt, h1, h2] at hg
    have hk : 6 * k + 5 < L := by omega
    refine lv_aload_n C.1 C.2.1 d_LA_law_33 rfl (lv_at hl 0 rfl) ?_
    refine lv_iload C.1 C.2.1 d_LA_law_34 (lv_at hl 4 rfl) ?_
    refine va_sld (A := LA0 s) C.1 C.2.1 hX hbl hb0 hV.2.2.2 (vp_in_nI (show 6 * k < L by omega) (by omega)) d_LA_law_36 ?_
    refine lv_bipush (v := 31) C.1 C.2.1 d_LA_law_37 (by decide) ?_
    refine lv_iand C.1 C.2.1 d_LA_law_39 ?_
    obtain ⟨j, hj, ej⟩ := pk_andE (xs (nI (6 * k)).toNatClampNeg) (m := 31) 5 (by decide)
    rw [ej]
    refine q_all K hk hR hz hV hl ⟨by omega, by omega⟩ (fun st mt v H locs ls hR hz hV hl => ?_) j hj
    refine lv_iinc (v := nI (6 * (k + 1))) C.1 C.2.1 d_LA_law_1332 hl (k := 4) rfl (nI_6 k) (by decide) rfl (fun ls hl => ?_)
    refine lv_goto (tgt := 23) C.1 C.2.1 d_LA_law_1335 (by decide) ?_
    exact ih (k + 1) st mt v H locs ls _ _ (by omega) hR hz hV (lv_sub hl [1, 2, 3, 4, 0] rfl) (by omega) (by omega)
end LQL
