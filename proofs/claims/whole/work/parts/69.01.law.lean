section LQ1
variable {p : Program} {l : Launch} {e : Env} {s : State} {m : MethodId} {below : List Frame} {meth : Method} {c : Code} {H : Heap} {locs : List Loc} {cells slots : Nat} {Q : State → Prop}
variable {ls : Array Slot} {D : va_G} {cA : Nat → ClassId} {st mt : XS} {v : Int64} {b0 L b1 b2 o k : Nat} {xs : Nat → Int32}
set_option maxRecDepth 100000 in
set_option maxHeartbeats 4000000 in
theorem q_patient (K : LC p l s m meth c D cA b0 L xs b1 b2 o) (hk : 6 * k + 5 < L) (hR : RR (100 * k) st mt) (hz : Rz mt) (hV : LV D cA s b1 b2 o st mt v H locs) (hl : lv_has ls 7 (LL b0 b1 b2 o k)) (hcs : cells + 1 ≤ 613765 ∧ slots + 6 ≤ 7254809)
    (kn : ∀ (st' mt' : XS) (v' : Int64) (H : Heap) (locs : List Loc) (ls : Array Slot), RR (100 * (k + 1)) st' mt' → Rz mt' → LV D cA s b1 b2 o st' mt' v' H locs → lv_has ls 7 (LL b0 b1 b2 o k) → W p l e room_1 s m #[.ref b0] below meth c H locs (cells + 1) (slots + 6) Q (F0 m 1332 ls [])) :
    W p l e room_1 s m #[.ref b0] below meth c H locs cells slots Q (F0 m 485 ls []) := by
  have hb9 : 100 * k + 100 < 2147483647 := by have := K.2.2.2.2.2.2.2.2.2.1; omega
  have C := K.1
  refine lv_aload_n C.1 C.2.1 d_LA_law_485 rfl (lv_at hl 1 rfl) ?_
  refine larg K hV hl (i0 := 0) (i4 := 4) rfl rfl (j := 1) rfl (by omega) d_LA_law_486 d_LA_law_487 d_LA_law_489 d_LA_law_490 d_LA_law_491 ?_
  refine larg K hV hl (i0 := 0) (i4 := 4) rfl rfl (j := 2) rfl (by omega) d_LA_law_492 d_LA_law_493 d_LA_law_495 d_LA_law_496 d_LA_law_497 ?_
  refine lcB (rest := []) K hV hl.1 (k_BN_patient l D cA b1 st (xs (6 * k + 1)) (xs (6 * k + 2)) ) q_BN_patient rfl rfl wg_471 wg_472 wg_473 ⟨Nat.le_of_ble_eq_true rfl, Nat.le_of_ble_eq_true rfl⟩ ⟨by show cells ≤ 613765; omega, by show slots ≤ 7254809; omega⟩ c_BN rfl (Nat.zero_le _) d_LA_law_498 rfl (fun H locs hV => ?_)
  refine lv_aload_n C.1 C.2.1 d_LA_law_501 rfl (lv_at hl 2 rfl) ?_
  refine larg K hV hl (i0 := 0) (i4 := 4) rfl rfl (j := 1) rfl (by omega) d_LA_law_502 d_LA_law_503 d_LA_law_505 d_LA_law_506 d_LA_law_507 ?_
  refine larg K hV hl (i0 := 0) (i4 := 4) rfl rfl (j := 2) rfl (by omega) d_LA_law_508 d_LA_law_509 d_LA_law_511 d_LA_law_512 d_LA_law_513 ?_
  refine lcM (rest := [.int _]) K hV hl.1 (k_MO_patient l D cA b2 mt (xs (6 * k + 1)) (xs (6 * k + 2)) hR.qok hR.cok) q_MO_patient rfl rfl wg_1139 wg_1140 wg_1141 ⟨Nat.le_of_ble_eq_true rfl, Nat.le_of_ble_eq_true rfl⟩ ⟨by show cells ≤ 613765; omega, by show slots ≤ 7254809; omega⟩ c_MO rfl (Nat.le_of_ble_eq_true rfl) d_LA_law_514 rfl (fun H locs hV => ?_)
  obtain ⟨e1, e2, e3⟩ := eq_patient hR hz (a1 := (xs (6 * k + 1))) (a2 := (xs (6 * k + 2)))
  refine lend K e1 d_LA_law_517 (by decide) ?_
  refine W.widen (k := cells + 1) (n := slots + 6) (by omega) (by omega) ?_
  exact kn _ _ _ _ _ _ (e2.mono (by omega)) e3 hV hl
set_option maxRecDepth 100000 in
set_option maxHeartbeats 4000000 in
theorem q_confirm (K : LC p l s m meth c D cA b0 L xs b1 b2 o) (hk : 6 * k + 5 < L) (hR : RR (100 * k) st mt) (hz : Rz mt) (hV : LV D cA s b1 b2 o st mt v H locs) (hl : lv_has ls 7 (LL b0 b1 b2 o k)) (hcs : cells + 1 ≤ 613765 ∧ slots + 6 ≤ 7254809)
    (kn : ∀ (st' mt' : XS) (v' : Int64) (H : Heap) (locs : List Loc) (ls : Array Slot), RR (100 * (k + 1)) st' mt' → Rz mt' → LV D cA s b1 b2 o st' mt' v' H locs → lv_has ls 7 (LL b0 b1 b2 o k) → W p l e room_1 s m #[.ref b0] below meth c H locs (cells + 1) (slots + 6) Q (F0 m 1332 ls [])) :
    W p l e room_1 s m #[.ref b0] below meth c H locs cells slots Q (F0 m 522 ls []) := by
  have hb9 : 100 * k + 100 < 2147483647 := by have := K.2.2.2.2.2.2.2.2.2.1; omega
  have C := K.1
  refine lv_aload_n C.1 C.2.1 d_LA_law_522 rfl (lv_at hl 1 rfl) ?_
  refine larg K hV hl (i0 := 0) (i4 := 4) rfl rfl (j := 1) rfl (by omega) d_LA_law_523 d_LA_law_524 d_LA_law_526 d_LA_law_527 d_LA_law_528 ?_
  refine lcB (rest := []) K hV hl.1 (k_BN_confirm l D cA b1 st (xs (6 * k + 1)) hR.dok) q_BN_confirm rfl rfl wg_475 wg_476 wg_477 ⟨Nat.le_of_ble_eq_true rfl, Nat.le_of_ble_eq_true rfl⟩ ⟨by show cells ≤ 613765; omega, by show slots ≤ 7254809; omega⟩ c_BN rfl (Nat.zero_le _) d_LA_law_529 rfl (fun H locs hV => ?_)
  refine lv_aload_n C.1 C.2.1 d_LA_law_532 rfl (lv_at hl 2 rfl) ?_
  refine larg K hV hl (i0 := 0) (i4 := 4) rfl rfl (j := 1) rfl (by omega) d_LA_law_533 d_LA_law_534 d_LA_law_536 d_LA_law_537 d_LA_law_538 ?_
  refine lcM (rest := [.int _]) K hV hl.1 (k_MO_confirm l D cA b2 mt (xs (6 * k + 1)) hR.qok hR.cok hR.bed) q_MO_confirm rfl rfl wg_1143 wg_1144 wg_1145 ⟨Nat.le_of_ble_eq_true rfl, Nat.le_of_ble_eq_true rfl⟩ ⟨by show cells ≤ 613765; omega, by show slots ≤ 7254809; omega⟩ c_MO rfl (Nat.le_of_ble_eq_true rfl) d_LA_law_539 rfl (fun H locs hV => ?_)
  obtain ⟨e1, e2, e3⟩ := eq_confirm hR hz (a1 := (xs (6 * k + 1)))
  refine lend K e1 d_LA_law_542 (by decide) ?_
  refine W.widen (k := cells + 1) (n := slots + 6) (by omega) (by omega) ?_
  exact kn _ _ _ _ _ _ (e2.mono (by omega)) e3 hV hl
set_option maxRecDepth 100000 in
set_option maxHeartbeats 4000000 in
theorem q_sample (K : LC p l s m meth c D cA b0 L xs b1 b2 o) (hk : 6 * k + 5 < L) (hR : RR (100 * k) st mt) (hz : Rz mt) (hV : LV D cA s b1 b2 o st mt v H locs) (hl : lv_has ls 7 (LL b0 b1 b2 o k)) (hcs : cells + 1 ≤ 613765 ∧ slots + 6 ≤ 7254809)
    (kn : ∀ (st' mt' : XS) (v' : Int64) (H : Heap) (locs : List Loc) (ls : Array Slot), RR (100 * (k + 1)) st' mt' → Rz mt' → LV D cA s b1 b2 o st' mt' v' H locs → lv_has ls 7 (LL b0 b1 b2 o k) → W p l e room_1 s m #[.ref b0] below meth c H locs (cells + 1) (slots + 6) Q (F0 m 1332 ls [])) :
    W p l e room_1 s m #[.ref b0] below meth c H locs cells slots Q (F0 m 547 ls []) := by
  have hb9 : 100 * k + 100 < 2147483647 := by have := K.2.2.2.2.2.2.2.2.2.1; omega
  have C := K.1
  refine lv_aload_n C.1 C.2.1 d_LA_law_547 rfl (lv_at hl 1 rfl) ?_
  refine larg K hV hl (i0 := 0) (i4 := 4) rfl rfl (j := 1) rfl (by omega) d_LA_law_548 d_LA_law_549 d_LA_law_551 d_LA_law_552 d_LA_law_553 ?_
  refine larg K hV hl (i0 := 0) (i4 := 4) rfl rfl (j := 2) rfl (by omega) d_LA_law_554 d_LA_law_555 d_LA_law_557 d_LA_law_558 d_LA_law_559 ?_
  refine larg K hV hl (i0 := 0) (i4 := 4) rfl rfl (j := 3) rfl (by omega) d_LA_law_560 d_LA_law_561 d_LA_law_563 d_LA_law_564 d_LA_law_565 ?_
  refine lcB (rest := []) K hV hl.1 (k_BN_sample l D cA b1 st (xs (6 * k + 1)) (xs (6 * k + 2)) (xs (6 * k + 3)) hR.pok hR.dok) q_BN_sample rfl rfl wg_483 wg_484 wg_485 ⟨Nat.le_of_ble_eq_true rfl, Nat.le_of_ble_eq_true rfl⟩ ⟨by show cells ≤ 613765; omega, by show slots ≤ 7254809; omega⟩ c_BN rfl (Nat.zero_le _) d_LA_law_566 rfl (fun H locs hV => ?_)
  refine lv_aload_n C.1 C.2.1 d_LA_law_569 rfl (lv_at hl 2 rfl) ?_
  refine larg K hV hl (i0 := 0) (i4 := 4) rfl rfl (j := 1) rfl (by omega) d_LA_law_570 d_LA_law_571 d_LA_law_573 d_LA_law_574 d_LA_law_575 ?_
  refine larg K hV hl (i0 := 0) (i4 := 4) rfl rfl (j := 2) rfl (by omega) d_LA_law_576 d_LA_law_577 d_LA_law_579 d_LA_law_580 d_LA_law_581 ?_
  refine larg K hV hl (i0 := 0) (i4 := 4) rfl rfl (j := 3) rfl (by omega) d_LA_law_582 d_LA_law_583 d_LA_law_585 d_LA_law_586 d_LA_law_587 ?_
  refine lcM (rest := [.int _]) K hV hl.1 (k_MO_sample l D cA b2 mt (xs (6 * k + 1)) (xs (6 * k + 2)) (xs (6 * k + 3)) hR.qok hR.cok hR.stp) q_MO_sample rfl rfl wg_1147 wg_1148 wg_1149 ⟨Nat.le_of_ble_eq_true rfl, Nat.le_of_ble_eq_true rfl⟩ ⟨by show cells ≤ 613765; omega, by show slots ≤ 7254809; omega⟩ c_MO rfl (Nat.le_of_ble_eq_true rfl) d_LA_law_588 rfl (fun H locs hV => ?_)
  obtain ⟨e1, e2, e3⟩ := eq_sample hR hz hb9 (a1 := (xs (6 * k + 1))) (a2 := (xs (6 * k + 2))) (a3 := (xs (6 * k + 3)))
  refine lend K e1 d_LA_law_591 (by decide) ?_
  refine W.widen (k := cells + 1) (n := slots + 6) (by omega) (by omega) ?_
  exact kn _ _ _ _ _ _ (e2.mono (by omega)) e3 hV hl
set_option maxRecDepth 100000 in
set_option maxHeartbeats 4000000 in
theorem q_tick (K : LC p l s m meth c D cA b0 L xs b1 b2 o) (hk : 6 * k + 5 < L) (hR : RR (100 * k) st mt) (hz : Rz mt) (hV : LV D cA s b1 b2 o st mt v H locs) (hl : lv_has ls 7 (LL b0 b1 b2 o k)) (hcs : cells + 1 ≤ 613765 ∧ slots + 6 ≤ 7254809)
    (kn : ∀ (st' mt' : XS) (v' : Int64) (H : Heap) (locs : List Loc) (ls : Array Slot), RR (100 * (k + 1)) st' mt' → Rz mt' → LV D cA s b1 b2 o st' mt' v' H locs → lv_has ls 7 (LL b0 b1 b2 o k) → W p l e room_1 s m #[.ref b0] below meth c H locs (cells + 1) (slots + 6) Q (F0 m 1332 ls [])) :
    W p l e room_1 s m #[.ref b0] below meth c H locs cells slots Q (F0 m 596 ls []) := by
  have hb9 : 100 * k + 100 < 2147483647 := by have := K.2.2.2.2.2.2.2.2.2.1; omega
  have C := K.1
  refine lv_aload_n C.1 C.2.1 d_LA_law_596 rfl (lv_at hl 1 rfl) ?_
  refine larg K hV hl (i0 := 0) (i4 := 4) rfl rfl (j := 1) rfl (by omega) d_LA_law_597 d_LA_law_598 d_LA_law_600 d_LA_law_601 d_LA_law_602 ?_
  refine lv_aload_n C.1 C.2.1 d_LA_law_603 rfl (lv_at hl 3 rfl) ?_
  refine lcW (rest := []) K hV hl.1 (kw_tick l K.2.1 D cA b1 st (xs (6 * k + 1)) hR.pok hR.dok o v) ⟨rfl, rfl⟩ wc_tick wg_0 ⟨by decide, by decide⟩ (n := 3) (by decide) wg_734 wg_735 ⟨Nat.le_of_ble_eq_true rfl, Nat.le_of_ble_eq_true rfl⟩ (by show cells + 1 ≤ 613765; omega) (by show slots + 6 ≤ 7254809; omega) rfl (Nat.zero_le _) d_LA_law_604 rfl (fun H locs hV => ?_)
  refine lv_istore C.1 C.2.1 d_LA_law_607 hl (by decide) rfl (fun ls hl => ?_)
  refine lv_aload_n C.1 C.2.1 d_LA_law_609 rfl (lv_at hl 3 rfl) ?_
  refine larg K hV hl (i0 := 1) (i4 := 5) rfl rfl (j := 1) rfl (by omega) d_LA_law_610 d_LA_law_611 d_LA_law_613 d_LA_law_614 d_LA_law_615 ?_
  refine lcM (rest := []) K hV hl.1 (k_MO_tick l D cA b2 mt (xs (6 * k + 1)) hR.qok hR.cok) q_MO_tick rfl rfl wg_1158 wg_1159 wg_1160 ⟨Nat.le_of_ble_eq_true rfl, Nat.le_of_ble_eq_true rfl⟩ ⟨by show cells + 1 ≤ 613765; omega, by show slots + 6 ≤ 7254809; omega⟩ c_MO rfl (Nat.le_of_ble_eq_true rfl) d_LA_law_616 rfl (fun H locs hV => ?_)
  refine lv_istore C.1 C.2.1 d_LA_law_619 hl (by decide) rfl (fun ls hl => ?_)
  obtain ⟨e1, e2, e3, e4⟩ := eq_tick hR hz hb9 (a1 := (xs (6 * k + 1)))
  refine lendT (t1 := 632) (t2 := 649) K hV hl (i2 := 4) (i3 := 5) (i5 := 1) (i6 := 0) rfl rfl rfl rfl e1.symm (fun z => ?_) ⟨by show cells + 1 ≤ 613765; omega, by show slots + 6 ≤ 7254809; omega⟩ ⟨Nat.le_of_ble_eq_true rfl, Nat.le_of_ble_eq_true rfl⟩ d_LA_law_621 d_LA_law_622 d_LA_law_625 d_LA_law_627 (by decide) d_LA_law_632 d_LA_law_634 (by decide) d_LA_law_637 d_LA_law_638 d_LA_law_639 d_LA_law_640 d_LA_law_642 d_LA_law_643 d_LA_law_644 (by decide) d_LA_law_649 (by decide) (fun H locs hV => kn _ _ _ _ _ _ (e3.mono (by omega)) e4 hV (lv_sub hl [2, 3, 4, 5, 6] rfl))
  have z0 := wK0 z
  rw [← e2 z0]
  unfold wV
  exact if_pos z0
set_option maxRecDepth 100000 in
set_option maxHeartbeats 4000000 in
theorem q_carry (K : LC p l s m meth c D cA b0 L xs b1 b2 o) (hk : 6 * k + 5 < L) (hR : RR (100 * k) st mt) (hz : Rz mt) (hV : LV D cA s b1 b2 o st mt v H locs) (hl : lv_has ls 7 (LL b0 b1 b2 o k)) (hcs : cells + 1 ≤ 613765 ∧ slots + 6 ≤ 7254809)
    (kn : ∀ (st' mt' : XS) (v' : Int64) (H : Heap) (locs : List Loc) (ls : Array Slot), RR (100 * (k + 1)) st' mt' → Rz mt' → LV D cA s b1 b2 o st' mt' v' H locs → lv_has ls 7 (LL b0 b1 b2 o k) → W p l e room_1 s m #[.ref b0] below meth c H locs (cells + 1) (slots + 6) Q (F0 m 1332 ls [])) :
    W p l e room_1 s m #[.ref b0] below meth c H locs cells slots Q (F0 m 652 ls []) := by
  have hb9 : 100 * k + 100 < 2147483647 := by have := K.2.2.2.2.2.2.2.2.2.1; omega
  have C := K.1
  refine lv_aload_n C.1 C.2.1 d_LA_law_652 rfl (lv_at hl 1 rfl) ?_
  refine larg K hV hl (i0 := 0) (i4 := 4) rfl rfl (j := 1) rfl (by omega) d_LA_law_653 d_LA_law_654 d_LA_law_656 d_LA_law_657 d_LA_law_658 ?_
  refine larg K hV hl (i0 := 0) (i4 := 4) rfl rfl (j := 2) rfl (by omega) d_LA_law_659 d_LA_law_660 d_LA_law_662 d_LA_law_663 d_LA_law_664 ?_
  refine lnz (t1 := 672) (t2 := 673) C.1 C.2.1 d_LA_law_665 (by decide) d_LA_law_668 d_LA_law_669 (by decide) d_LA_law_672 rfl ?_
  refine lcB (rest := []) K hV hl.1 (k_BN_carry l D cA b1 st (xs (6 * k + 1)) (nzb (xs (6 * k + 2))) hR.pok hR.dok hR.mall hR.dcn.1.2) q_BN_carry rfl rfl wg_522 wg_523 wg_524 ⟨Nat.le_of_ble_eq_true rfl, Nat.le_of_ble_eq_true rfl⟩ ⟨by show cells ≤ 613765; omega, by show slots ≤ 7254809; omega⟩ c_BN rfl (Nat.zero_le _) d_LA_law_673 rfl (fun H locs hV => ?_)
  refine lv_aload_n C.1 C.2.1 d_LA_law_676 rfl (lv_at hl 2 rfl) ?_
  refine larg K hV hl (i0 := 0) (i4 := 4) rfl rfl (j := 1) rfl (by omega) d_LA_law_677 d_LA_law_678 d_LA_law_680 d_LA_law_681 d_LA_law_682 ?_
  refine larg K hV hl (i0 := 0) (i4 := 4) rfl rfl (j := 2) rfl (by omega) d_LA_law_683 d_LA_law_684 d_LA_law_686 d_LA_law_687 d_LA_law_688 ?_
  refine lnz (t1 := 696) (t2 := 697) C.1 C.2.1 d_LA_law_689 (by decide) d_LA_law_692 d_LA_law_693 (by decide) d_LA_law_696 rfl ?_
  refine lcM (rest := [.int _]) K hV hl.1 (k_MO_carry l D cA b2 mt (xs (6 * k + 1)) (nzb (xs (6 * k + 2))) hR.qok hR.cok hR.dcn.2.2 hR.nall) q_MO_carry rfl rfl wg_1171 wg_1172 wg_1173 ⟨Nat.le_of_ble_eq_true rfl, Nat.le_of_ble_eq_true rfl⟩ ⟨by show cells ≤ 613765; omega, by show slots ≤ 7254809; omega⟩ c_MO rfl (Nat.le_of_ble_eq_true rfl) d_LA_law_697 rfl (fun H locs hV => ?_)
  obtain ⟨e1, e2, e3⟩ := eq_carry hR hz hb9 (a1 := (xs (6 * k + 1))) (a2 := (nzb (xs (6 * k + 2))))
  refine lend K e1 d_LA_law_700 (by decide) ?_
  refine W.widen (k := cells + 1) (n := slots + 6) (by omega) (by omega) ?_
  exact kn _ _ _ _ _ _ (e2.mono (by omega)) e3 hV hl
set_option maxRecDepth 100000 in
set_option maxHeartbeats 4000000 in
theorem q_drop (K : LC p l s m meth c D cA b0 L xs b1 b2 o) (hk : 6 * k + 5 < L) (hR : RR (100 * k) st mt) (hz : Rz mt) (hV : LV D cA s b1 b2 o st mt v H locs) (hl : lv_has ls 7 (LL b0 b1 b2 o k)) (hcs : cells + 1 ≤ 613765 ∧ slots + 6 ≤ 7254809)
    (kn : ∀ (st' mt' : XS) (v' : Int64) (H : Heap) (locs : List Loc) (ls : Array Slot), RR (100 * (k + 1)) st' mt' → Rz mt' → LV D cA s b1 b2 o st' mt' v' H locs → lv_has ls 7 (LL b0 b1 b2 o k) → W p l e room_1 s m #[.ref b0] below meth c H locs (cells + 1) (slots + 6) Q (F0 m 1332 ls [])) :
    W p l e room_1 s m #[.ref b0] below meth c H locs cells slots Q (F0 m 705 ls []) := by
  have hb9 : 100 * k + 100 < 2147483647 := by have := K.2.2.2.2.2.2.2.2.2.1; omega
  have C := K.1
  refine lv_aload_n C.1 C.2.1 d_LA_law_705 rfl (lv_at hl 1 rfl) ?_
  refine larg K hV hl (i0 := 0) (i4 := 4) rfl rfl (j := 1) rfl (by omega) d_LA_law_706 d_LA_law_707 d_LA_law_709 d_LA_law_710 d_LA_law_711 ?_
  refine lcB (rest := []) K hV hl.1 (k_BN_drop l D cA b1 st (xs (6 * k + 1)) hR.pok) q_BN_drop rfl rfl wg_578 wg_579 wg_580 ⟨Nat.le_of_ble_eq_true rfl, Nat.le_of_ble_eq_true rfl⟩ ⟨by show cells ≤ 613765; omega, by show slots ≤ 7254809; omega⟩ c_BN rfl (Nat.zero_le _) d_LA_law_712 rfl (fun H locs hV => ?_)
  refine lv_aload_n C.1 C.2.1 d_LA_law_715 rfl (lv_at hl 2 rfl) ?_
  refine larg K hV hl (i0 := 0) (i4 := 4) rfl rfl (j := 1) rfl (by omega) d_LA_law_716 d_LA_law_717 d_LA_law_719 d_LA_law_720 d_LA_law_721 ?_
  refine lcM (rest := [.int _]) K hV hl.1 (k_MO_drop l D cA b2 mt (xs (6 * k + 1)) hR.qok) q_MO_drop rfl rfl wg_1199 wg_1200 wg_1201 ⟨Nat.le_of_ble_eq_true rfl, Nat.le_of_ble_eq_true rfl⟩ ⟨by show cells ≤ 613765; omega, by show slots ≤ 7254809; omega⟩ c_MO rfl (Nat.le_of_ble_eq_true rfl) d_LA_law_722 rfl (fun H locs hV => ?_)
  obtain ⟨e1, e2, e3⟩ := eq_drop hR hz (a1 := (xs (6 * k + 1)))
  refine lend K e1 d_LA_law_725 (by decide) ?_
  refine W.widen (k := cells + 1) (n := slots + 6) (by omega) (by omega) ?_
  exact kn _ _ _ _ _ _ (e2.mono (by omega)) e3 hV hl
end LQ1
