section LQ2
variable {p : Program} {l : Launch} {e : Env} {s : State} {m : MethodId} {below : List Frame} {meth : Method} {c : Code} {H : Heap} {locs : List Loc} {cells slots : Nat} {Q : State → Prop}
variable {ls : Array Slot} {D : va_G} {cA : Nat → ClassId} {st mt : XS} {v : Int64} {b0 L b1 b2 o k : Nat} {xs : Nat → Int32}
set_option maxRecDepth 100000 in
set_option maxHeartbeats 4000000 in
theorem q_bind (K : LC p l s m meth c D cA b0 L xs b1 b2 o) (hk : 6 * k + 5 < L) (hR : RR (100 * k) st mt) (hz : Rz mt) (hV : LV D cA s b1 b2 o st mt v H locs) (hl : lv_has ls 7 (LL b0 b1 b2 o k)) (hcs : cells + 1 ≤ 613765 ∧ slots + 6 ≤ 7254809)
    (kn : ∀ (st' mt' : XS) (v' : Int64) (H : Heap) (locs : List Loc) (ls : Array Slot), RR (100 * (k + 1)) st' mt' → Rz mt' → LV D cA s b1 b2 o st' mt' v' H locs → lv_has ls 7 (LL b0 b1 b2 o k) → W p l e room_1 s m #[.ref b0] below meth c H locs (cells + 1) (slots + 6) Q (F0 m 1332 ls [])) :
    W p l e room_1 s m #[.ref b0] below meth c H locs cells slots Q (F0 m 730 ls []) := by
  have hb9 : 100 * k + 100 < 2147483647 := by have := K.2.2.2.2.2.2.2.2.2.1; omega
  have C := K.1
  refine lv_aload_n C.1 C.2.1 d_LA_law_730 rfl (lv_at hl 1 rfl) ?_
  refine larg K hV hl (i0 := 0) (i4 := 4) rfl rfl (j := 1) rfl (by omega) d_LA_law_731 d_LA_law_732 d_LA_law_734 d_LA_law_735 d_LA_law_736 ?_
  refine larg K hV hl (i0 := 0) (i4 := 4) rfl rfl (j := 2) rfl (by omega) d_LA_law_737 d_LA_law_738 d_LA_law_740 d_LA_law_741 d_LA_law_742 ?_
  refine lv_aload_n C.1 C.2.1 d_LA_law_743 rfl (lv_at hl 3 rfl) ?_
  refine lcW (rest := []) K hV hl.1 (kw_bind l K.2.1 D cA b1 st (xs (6 * k + 1)) (xs (6 * k + 2)) hR.dok hR.dcn.1.1 o v) ⟨rfl, rfl⟩ wc_bind wg_0 ⟨by decide, by decide⟩ (n := 4) (by decide) wg_750 wg_751 ⟨Nat.le_of_ble_eq_true rfl, Nat.le_of_ble_eq_true rfl⟩ (by show cells + 1 ≤ 613765; omega) (by show slots + 6 ≤ 7254809; omega) rfl (Nat.zero_le _) d_LA_law_744 rfl (fun H locs hV => ?_)
  refine lv_istore C.1 C.2.1 d_LA_law_747 hl (by decide) rfl (fun ls hl => ?_)
  refine lv_aload_n C.1 C.2.1 d_LA_law_749 rfl (lv_at hl 3 rfl) ?_
  refine larg K hV hl (i0 := 1) (i4 := 5) rfl rfl (j := 1) rfl (by omega) d_LA_law_750 d_LA_law_751 d_LA_law_753 d_LA_law_754 d_LA_law_755 ?_
  refine larg K hV hl (i0 := 1) (i4 := 5) rfl rfl (j := 2) rfl (by omega) d_LA_law_756 d_LA_law_757 d_LA_law_759 d_LA_law_760 d_LA_law_761 ?_
  refine lcM (rest := []) K hV hl.1 (k_MO_bind l D cA b2 mt (xs (6 * k + 1)) (xs (6 * k + 2)) hR.dcn.2) q_MO_bind rfl rfl wg_1203 wg_1204 wg_1205 ⟨Nat.le_of_ble_eq_true rfl, Nat.le_of_ble_eq_true rfl⟩ ⟨by show cells + 1 ≤ 613765; omega, by show slots + 6 ≤ 7254809; omega⟩ c_MO rfl (Nat.le_of_ble_eq_true rfl) d_LA_law_762 rfl (fun H locs hV => ?_)
  refine lv_istore C.1 C.2.1 d_LA_law_765 hl (by decide) rfl (fun ls hl => ?_)
  obtain ⟨e1, e2, e3, e4⟩ := eq_bind hR hz (a1 := (xs (6 * k + 1))) (a2 := (xs (6 * k + 2)))
  refine lendT (t1 := 778) (t2 := 795) K hV hl (i2 := 4) (i3 := 5) (i5 := 1) (i6 := 0) rfl rfl rfl rfl e1.symm (fun z => ?_) ⟨by show cells + 1 ≤ 613765; omega, by show slots + 6 ≤ 7254809; omega⟩ ⟨Nat.le_of_ble_eq_true rfl, Nat.le_of_ble_eq_true rfl⟩ d_LA_law_767 d_LA_law_768 d_LA_law_771 d_LA_law_773 (by decide) d_LA_law_778 d_LA_law_780 (by decide) d_LA_law_783 d_LA_law_784 d_LA_law_785 d_LA_law_786 d_LA_law_788 d_LA_law_789 d_LA_law_790 (by decide) d_LA_law_795 (by decide) (fun H locs hV => kn _ _ _ _ _ _ (e3.mono (by omega)) e4 hV (lv_sub hl [2, 3, 4, 5, 6] rfl))
  have z0 := wK0 z
  rw [← e2 z0]
  unfold wV
  exact if_pos z0
set_option maxRecDepth 100000 in
set_option maxHeartbeats 4000000 in
theorem q_shown (K : LC p l s m meth c D cA b0 L xs b1 b2 o) (hk : 6 * k + 5 < L) (hR : RR (100 * k) st mt) (hz : Rz mt) (hV : LV D cA s b1 b2 o st mt v H locs) (hl : lv_has ls 7 (LL b0 b1 b2 o k)) (hcs : cells + 1 ≤ 613765 ∧ slots + 6 ≤ 7254809)
    (kn : ∀ (st' mt' : XS) (v' : Int64) (H : Heap) (locs : List Loc) (ls : Array Slot), RR (100 * (k + 1)) st' mt' → Rz mt' → LV D cA s b1 b2 o st' mt' v' H locs → lv_has ls 7 (LL b0 b1 b2 o k) → W p l e room_1 s m #[.ref b0] below meth c H locs (cells + 1) (slots + 6) Q (F0 m 1332 ls [])) :
    W p l e room_1 s m #[.ref b0] below meth c H locs cells slots Q (F0 m 798 ls []) := by
  have hb9 : 100 * k + 100 < 2147483647 := by have := K.2.2.2.2.2.2.2.2.2.1; omega
  have C := K.1
  refine lv_aload_n C.1 C.2.1 d_LA_law_798 rfl (lv_at hl 1 rfl) ?_
  refine larg K hV hl (i0 := 0) (i4 := 4) rfl rfl (j := 1) rfl (by omega) d_LA_law_799 d_LA_law_800 d_LA_law_802 d_LA_law_803 d_LA_law_804 ?_
  refine larg K hV hl (i0 := 0) (i4 := 4) rfl rfl (j := 2) rfl (by omega) d_LA_law_805 d_LA_law_806 d_LA_law_808 d_LA_law_809 d_LA_law_810 ?_
  refine lv_aload_n C.1 C.2.1 d_LA_law_811 rfl (lv_at hl 3 rfl) ?_
  refine lcW (rest := []) K hV hl.1 (kw_shown l K.2.1 D cA b1 st (xs (6 * k + 1)) (xs (6 * k + 2)) hR.dcn.1.2 o v) ⟨rfl, rfl⟩ wc_shown wg_0 ⟨by decide, by decide⟩ (n := 4) (by decide) wg_769 wg_770 ⟨Nat.le_of_ble_eq_true rfl, Nat.le_of_ble_eq_true rfl⟩ (by show cells + 1 ≤ 613765; omega) (by show slots + 6 ≤ 7254809; omega) rfl (Nat.zero_le _) d_LA_law_812 rfl (fun H locs hV => ?_)
  refine lv_istore C.1 C.2.1 d_LA_law_815 hl (by decide) rfl (fun ls hl => ?_)
  refine lv_aload_n C.1 C.2.1 d_LA_law_817 rfl (lv_at hl 3 rfl) ?_
  refine larg K hV hl (i0 := 1) (i4 := 5) rfl rfl (j := 1) rfl (by omega) d_LA_law_818 d_LA_law_819 d_LA_law_821 d_LA_law_822 d_LA_law_823 ?_
  refine larg K hV hl (i0 := 1) (i4 := 5) rfl rfl (j := 2) rfl (by omega) d_LA_law_824 d_LA_law_825 d_LA_law_827 d_LA_law_828 d_LA_law_829 ?_
  refine lcM (rest := []) K hV hl.1 (k_MO_shown l D cA b2 mt (xs (6 * k + 1)) (xs (6 * k + 2)) hR.dcn.2) q_MO_shown rfl rfl wg_1207 wg_1208 wg_1209 ⟨Nat.le_of_ble_eq_true rfl, Nat.le_of_ble_eq_true rfl⟩ ⟨by show cells + 1 ≤ 613765; omega, by show slots + 6 ≤ 7254809; omega⟩ c_MO rfl (Nat.le_of_ble_eq_true rfl) d_LA_law_830 rfl (fun H locs hV => ?_)
  refine lv_istore C.1 C.2.1 d_LA_law_833 hl (by decide) rfl (fun ls hl => ?_)
  obtain ⟨e1, e2, e3, e4⟩ := eq_shown hR hz (a1 := (xs (6 * k + 1))) (a2 := (xs (6 * k + 2)))
  refine lendT (t1 := 846) (t2 := 863) K hV hl (i2 := 4) (i3 := 5) (i5 := 1) (i6 := 0) rfl rfl rfl rfl e1.symm (fun z => ?_) ⟨by show cells + 1 ≤ 613765; omega, by show slots + 6 ≤ 7254809; omega⟩ ⟨Nat.le_of_ble_eq_true rfl, Nat.le_of_ble_eq_true rfl⟩ d_LA_law_835 d_LA_law_836 d_LA_law_839 d_LA_law_841 (by decide) d_LA_law_846 d_LA_law_848 (by decide) d_LA_law_851 d_LA_law_852 d_LA_law_853 d_LA_law_854 d_LA_law_856 d_LA_law_857 d_LA_law_858 (by decide) d_LA_law_863 (by decide) (fun H locs hV => kn _ _ _ _ _ _ (e3.mono (by omega)) e4 hV (lv_sub hl [2, 3, 4, 5, 6] rfl))
  have z0 := wK0 z
  rw [← e2 z0]
  unfold wV
  exact if_pos z0
set_option maxRecDepth 100000 in
set_option maxHeartbeats 4000000 in
theorem q_acknowledge (K : LC p l s m meth c D cA b0 L xs b1 b2 o) (hk : 6 * k + 5 < L) (hR : RR (100 * k) st mt) (hz : Rz mt) (hV : LV D cA s b1 b2 o st mt v H locs) (hl : lv_has ls 7 (LL b0 b1 b2 o k)) (hcs : cells + 1 ≤ 613765 ∧ slots + 6 ≤ 7254809)
    (kn : ∀ (st' mt' : XS) (v' : Int64) (H : Heap) (locs : List Loc) (ls : Array Slot), RR (100 * (k + 1)) st' mt' → Rz mt' → LV D cA s b1 b2 o st' mt' v' H locs → lv_has ls 7 (LL b0 b1 b2 o k) → W p l e room_1 s m #[.ref b0] below meth c H locs (cells + 1) (slots + 6) Q (F0 m 1332 ls [])) :
    W p l e room_1 s m #[.ref b0] below meth c H locs cells slots Q (F0 m 866 ls []) := by
  have hb9 : 100 * k + 100 < 2147483647 := by have := K.2.2.2.2.2.2.2.2.2.1; omega
  have C := K.1
  refine lv_aload_n C.1 C.2.1 d_LA_law_866 rfl (lv_at hl 1 rfl) ?_
  refine larg K hV hl (i0 := 0) (i4 := 4) rfl rfl (j := 1) rfl (by omega) d_LA_law_867 d_LA_law_868 d_LA_law_870 d_LA_law_871 d_LA_law_872 ?_
  refine larg K hV hl (i0 := 0) (i4 := 4) rfl rfl (j := 2) rfl (by omega) d_LA_law_873 d_LA_law_874 d_LA_law_876 d_LA_law_877 d_LA_law_878 ?_
  refine lcB (rest := []) K hV hl.1 (k_BN_acknowledge l D cA b1 st (xs (6 * k + 1)) (xs (6 * k + 2)) hR.pok hR.dok) q_BN_acknowledge rfl rfl wg_582 wg_583 wg_584 ⟨Nat.le_of_ble_eq_true rfl, Nat.le_of_ble_eq_true rfl⟩ ⟨by show cells ≤ 613765; omega, by show slots ≤ 7254809; omega⟩ c_BN rfl (Nat.zero_le _) d_LA_law_879 rfl (fun H locs hV => ?_)
  refine lv_aload_n C.1 C.2.1 d_LA_law_882 rfl (lv_at hl 2 rfl) ?_
  refine larg K hV hl (i0 := 0) (i4 := 4) rfl rfl (j := 1) rfl (by omega) d_LA_law_883 d_LA_law_884 d_LA_law_886 d_LA_law_887 d_LA_law_888 ?_
  refine larg K hV hl (i0 := 0) (i4 := 4) rfl rfl (j := 2) rfl (by omega) d_LA_law_889 d_LA_law_890 d_LA_law_892 d_LA_law_893 d_LA_law_894 ?_
  refine lcM (rest := [.int _]) K hV hl.1 (k_MO_acknowledge l D cA b2 mt (xs (6 * k + 1)) (xs (6 * k + 2)) hR.qok hR.cok) q_MO_acknowledge rfl rfl wg_1211 wg_1212 wg_1213 ⟨Nat.le_of_ble_eq_true rfl, Nat.le_of_ble_eq_true rfl⟩ ⟨by show cells ≤ 613765; omega, by show slots ≤ 7254809; omega⟩ c_MO rfl (Nat.le_of_ble_eq_true rfl) d_LA_law_895 rfl (fun H locs hV => ?_)
  obtain ⟨e1, e2, e3⟩ := eq_acknowledge hR hz hb9 (a1 := (xs (6 * k + 1))) (a2 := (xs (6 * k + 2)))
  refine lend K e1 d_LA_law_898 (by decide) ?_
  refine W.widen (k := cells + 1) (n := slots + 6) (by omega) (by omega) ?_
  exact kn _ _ _ _ _ _ (e2.mono (by omega)) e3 hV hl
set_option maxRecDepth 100000 in
set_option maxHeartbeats 4000000 in
theorem q_inhibit (K : LC p l s m meth c D cA b0 L xs b1 b2 o) (hk : 6 * k + 5 < L) (hR : RR (100 * k) st mt) (hz : Rz mt) (hV : LV D cA s b1 b2 o st mt v H locs) (hl : lv_has ls 7 (LL b0 b1 b2 o k)) (hcs : cells + 1 ≤ 613765 ∧ slots + 6 ≤ 7254809)
    (kn : ∀ (st' mt' : XS) (v' : Int64) (H : Heap) (locs : List Loc) (ls : Array Slot), RR (100 * (k + 1)) st' mt' → Rz mt' → LV D cA s b1 b2 o st' mt' v' H locs → lv_has ls 7 (LL b0 b1 b2 o k) → W p l e room_1 s m #[.ref b0] below meth c H locs (cells + 1) (slots + 6) Q (F0 m 1332 ls [])) :
    W p l e room_1 s m #[.ref b0] below meth c H locs cells slots Q (F0 m 903 ls []) := by
  have hb9 : 100 * k + 100 < 2147483647 := by have := K.2.2.2.2.2.2.2.2.2.1; omega
  have C := K.1
  refine lv_aload_n C.1 C.2.1 d_LA_law_903 rfl (lv_at hl 1 rfl) ?_
  refine larg K hV hl (i0 := 0) (i4 := 4) rfl rfl (j := 1) rfl (by omega) d_LA_law_904 d_LA_law_905 d_LA_law_907 d_LA_law_908 d_LA_law_909 ?_
  refine larg K hV hl (i0 := 0) (i4 := 4) rfl rfl (j := 2) rfl (by omega) d_LA_law_910 d_LA_law_911 d_LA_law_913 d_LA_law_914 d_LA_law_915 ?_
  refine larg K hV hl (i0 := 0) (i4 := 4) rfl rfl (j := 3) rfl (by omega) d_LA_law_916 d_LA_law_917 d_LA_law_919 d_LA_law_920 d_LA_law_921 ?_
  refine lcB (rest := []) K hV hl.1 (k_BN_inhibit l D cA b1 st (xs (6 * k + 1)) (xs (6 * k + 2)) (xs (6 * k + 3)) hR.pok hR.dok) q_BN_inhibit rfl rfl wg_590 wg_591 wg_592 ⟨Nat.le_of_ble_eq_true rfl, Nat.le_of_ble_eq_true rfl⟩ ⟨by show cells ≤ 613765; omega, by show slots ≤ 7254809; omega⟩ c_BN rfl (Nat.zero_le _) d_LA_law_922 rfl (fun H locs hV => ?_)
  refine lv_aload_n C.1 C.2.1 d_LA_law_925 rfl (lv_at hl 2 rfl) ?_
  refine larg K hV hl (i0 := 0) (i4 := 4) rfl rfl (j := 1) rfl (by omega) d_LA_law_926 d_LA_law_927 d_LA_law_929 d_LA_law_930 d_LA_law_931 ?_
  refine larg K hV hl (i0 := 0) (i4 := 4) rfl rfl (j := 2) rfl (by omega) d_LA_law_932 d_LA_law_933 d_LA_law_935 d_LA_law_936 d_LA_law_937 ?_
  refine larg K hV hl (i0 := 0) (i4 := 4) rfl rfl (j := 3) rfl (by omega) d_LA_law_938 d_LA_law_939 d_LA_law_941 d_LA_law_942 d_LA_law_943 ?_
  refine lcM (rest := [.int _]) K hV hl.1 (k_MO_inhibit l D cA b2 mt (xs (6 * k + 1)) (xs (6 * k + 2)) (xs (6 * k + 3)) hR.qok hR.cok) q_MO_inhibit rfl rfl wg_1215 wg_1216 wg_1217 ⟨Nat.le_of_ble_eq_true rfl, Nat.le_of_ble_eq_true rfl⟩ ⟨by show cells ≤ 613765; omega, by show slots ≤ 7254809; omega⟩ c_MO rfl (Nat.le_of_ble_eq_true rfl) d_LA_law_944 rfl (fun H locs hV => ?_)
  obtain ⟨e1, e2, e3⟩ := eq_inhibit hR hz hb9 (a1 := (xs (6 * k + 1))) (a2 := (xs (6 * k + 2))) (a3 := (xs (6 * k + 3)))
  refine lend K e1 d_LA_law_947 (by decide) ?_
  refine W.widen (k := cells + 1) (n := slots + 6) (by omega) (by omega) ?_
  exact kn _ _ _ _ _ _ (e2.mono (by omega)) e3 hV hl
set_option maxRecDepth 100000 in
set_option maxHeartbeats 4000000 in
theorem q_lease (K : LC p l s m meth c D cA b0 L xs b1 b2 o) (hk : 6 * k + 5 < L) (hR : RR (100 * k) st mt) (hz : Rz mt) (hV : LV D cA s b1 b2 o st mt v H locs) (hl : lv_has ls 7 (LL b0 b1 b2 o k)) (hcs : cells + 1 ≤ 613765 ∧ slots + 6 ≤ 7254809)
    (kn : ∀ (st' mt' : XS) (v' : Int64) (H : Heap) (locs : List Loc) (ls : Array Slot), RR (100 * (k + 1)) st' mt' → Rz mt' → LV D cA s b1 b2 o st' mt' v' H locs → lv_has ls 7 (LL b0 b1 b2 o k) → W p l e room_1 s m #[.ref b0] below meth c H locs (cells + 1) (slots + 6) Q (F0 m 1332 ls [])) :
    W p l e room_1 s m #[.ref b0] below meth c H locs cells slots Q (F0 m 952 ls []) := by
  have hb9 : 100 * k + 100 < 2147483647 := by have := K.2.2.2.2.2.2.2.2.2.1; omega
  have C := K.1
  refine lv_aload_n C.1 C.2.1 d_LA_law_952 rfl (lv_at hl 1 rfl) ?_
  refine larg K hV hl (i0 := 0) (i4 := 4) rfl rfl (j := 1) rfl (by omega) d_LA_law_953 d_LA_law_954 d_LA_law_956 d_LA_law_957 d_LA_law_958 ?_
  refine larg K hV hl (i0 := 0) (i4 := 4) rfl rfl (j := 2) rfl (by omega) d_LA_law_959 d_LA_law_960 d_LA_law_962 d_LA_law_963 d_LA_law_964 ?_
  refine lcB (rest := []) K hV hl.1 (k_BN_lease l D cA b1 st (xs (6 * k + 1)) (xs (6 * k + 2)) ) q_BN_lease rfl rfl wg_594 wg_595 wg_596 ⟨Nat.le_of_ble_eq_true rfl, Nat.le_of_ble_eq_true rfl⟩ ⟨by show cells ≤ 613765; omega, by show slots ≤ 7254809; omega⟩ c_BN rfl (Nat.zero_le _) d_LA_law_965 rfl (fun H locs hV => ?_)
  refine lv_aload_n C.1 C.2.1 d_LA_law_968 rfl (lv_at hl 2 rfl) ?_
  refine larg K hV hl (i0 := 0) (i4 := 4) rfl rfl (j := 1) rfl (by omega) d_LA_law_969 d_LA_law_970 d_LA_law_972 d_LA_law_973 d_LA_law_974 ?_
  refine larg K hV hl (i0 := 0) (i4 := 4) rfl rfl (j := 2) rfl (by omega) d_LA_law_975 d_LA_law_976 d_LA_law_978 d_LA_law_979 d_LA_law_980 ?_
  refine lcM (rest := [.int _]) K hV hl.1 (k_MO_lease l D cA b2 mt (xs (6 * k + 1)) (xs (6 * k + 2)) hR.qok hR.cok) q_MO_lease rfl rfl wg_1219 wg_1220 wg_1221 ⟨Nat.le_of_ble_eq_true rfl, Nat.le_of_ble_eq_true rfl⟩ ⟨by show cells ≤ 613765; omega, by show slots ≤ 7254809; omega⟩ c_MO rfl (Nat.le_of_ble_eq_true rfl) d_LA_law_981 rfl (fun H locs hV => ?_)
  obtain ⟨e1, e2, e3⟩ := eq_lease hR hz (a1 := (xs (6 * k + 1))) (a2 := (xs (6 * k + 2)))
  refine lend K e1 d_LA_law_984 (by decide) ?_
  refine W.widen (k := cells + 1) (n := slots + 6) (by omega) (by omega) ?_
  exact kn _ _ _ _ _ _ (e2.mono (by omega)) e3 hV hl
set_option maxRecDepth 100000 in
set_option maxHeartbeats 4000000 in
theorem q_order (K : LC p l s m meth c D cA b0 L xs b1 b2 o) (hk : 6 * k + 5 < L) (hR : RR (100 * k) st mt) (hz : Rz mt) (hV : LV D cA s b1 b2 o st mt v H locs) (hl : lv_has ls 7 (LL b0 b1 b2 o k)) (hcs : cells + 1 ≤ 613765 ∧ slots + 6 ≤ 7254809)
    (kn : ∀ (st' mt' : XS) (v' : Int64) (H : Heap) (locs : List Loc) (ls : Array Slot), RR (100 * (k + 1)) st' mt' → Rz mt' → LV D cA s b1 b2 o st' mt' v' H locs → lv_has ls 7 (LL b0 b1 b2 o k) → W p l e room_1 s m #[.ref b0] below meth c H locs (cells + 1) (slots + 6) Q (F0 m 1332 ls [])) :
    W p l e room_1 s m #[.ref b0] below meth c H locs cells slots Q (F0 m 989 ls []) := by
  have hb9 : 100 * k + 100 < 2147483647 := by have := K.2.2.2.2.2.2.2.2.2.1; omega
  have C := K.1
  refine lv_aload_n C.1 C.2.1 d_LA_law_989 rfl (lv_at hl 1 rfl) ?_
  refine larg K hV hl (i0 := 0) (i4 := 4) rfl rfl (j := 1) rfl (by omega) d_LA_law_990 d_LA_law_991 d_LA_law_993 d_LA_law_994 d_LA_law_995 ?_
  refine larg K hV hl (i0 := 0) (i4 := 4) rfl rfl (j := 2) rfl (by omega) d_LA_law_996 d_LA_law_997 d_LA_law_999 d_LA_law_1000 d_LA_law_1001 ?_
  refine larg K hV hl (i0 := 0) (i4 := 4) rfl rfl (j := 3) rfl (by omega) d_LA_law_1002 d_LA_law_1003 d_LA_law_1005 d_LA_law_1006 d_LA_law_1007 ?_
  refine larg K hV hl (i0 := 0) (i4 := 4) rfl rfl (j := 4) rfl (by omega) d_LA_law_1008 d_LA_law_1009 d_LA_law_1011 d_LA_law_1012 d_LA_law_1013 ?_
  refine lv_aload_n C.1 C.2.1 d_LA_law_1014 rfl (lv_at hl 3 rfl) ?_
  refine lcW (rest := []) K hV hl.1 (kw_order l K.2.1 D cA b1 st (xs (6 * k + 1)) (xs (6 * k + 2)) (xs (6 * k + 3)) (xs (6 * k + 4)) hR.pok hR.ocn.1.1 o v) ⟨rfl, rfl⟩ wc_order wg_0 ⟨by decide, by decide⟩ (n := 6) (by decide) wg_808 wg_809 ⟨Nat.le_of_ble_eq_true rfl, Nat.le_of_ble_eq_true rfl⟩ (by show cells + 1 ≤ 613765; omega) (by show slots + 6 ≤ 7254809; omega) rfl (Nat.zero_le _) d_LA_law_1015 rfl (fun H locs hV => ?_)
  refine lv_istore C.1 C.2.1 d_LA_law_1018 hl (by decide) rfl (fun ls hl => ?_)
  refine lv_aload_n C.1 C.2.1 d_LA_law_1020 rfl (lv_at hl 3 rfl) ?_
  refine larg K hV hl (i0 := 1) (i4 := 5) rfl rfl (j := 1) rfl (by omega) d_LA_law_1021 d_LA_law_1022 d_LA_law_1024 d_LA_law_1025 d_LA_law_1026 ?_
  refine larg K hV hl (i0 := 1) (i4 := 5) rfl rfl (j := 2) rfl (by omega) d_LA_law_1027 d_LA_law_1028 d_LA_law_1030 d_LA_law_1031 d_LA_law_1032 ?_
  refine larg K hV hl (i0 := 1) (i4 := 5) rfl rfl (j := 3) rfl (by omega) d_LA_law_1033 d_LA_law_1034 d_LA_law_1036 d_LA_law_1037 d_LA_law_1038 ?_
  refine larg K hV hl (i0 := 1) (i4 := 5) rfl rfl (j := 4) rfl (by omega) d_LA_law_1039 d_LA_law_1040 d_LA_law_1042 d_LA_law_1043 d_LA_law_1044 ?_
  refine lcM (rest := []) K hV hl.1 (k_MO_order l D cA b2 mt (xs (6 * k + 1)) (xs (6 * k + 2)) (xs (6 * k + 3)) (xs (6 * k + 4)) hR.qok hR.cok hR.ocn.2) q_MO_order rfl rfl wg_1230 wg_1231 wg_1232 ⟨Nat.le_of_ble_eq_true rfl, Nat.le_of_ble_eq_true rfl⟩ ⟨by show cells + 1 ≤ 613765; omega, by show slots + 6 ≤ 7254809; omega⟩ c_MO rfl (Nat.le_of_ble_eq_true rfl) d_LA_law_1045 rfl (fun H locs hV => ?_)
  refine lv_istore C.1 C.2.1 d_LA_law_1048 hl (by decide) rfl (fun ls hl => ?_)
  obtain ⟨e1, e2, e3, e4⟩ := eq_order hR hz hb9 (a1 := (xs (6 * k + 1))) (a2 := (xs (6 * k + 2))) (a3 := (xs (6 * k + 3))) (a4 := (xs (6 * k + 4)))
  refine lendT (t1 := 1061) (t2 := 1078) K hV hl (i2 := 4) (i3 := 5) (i5 := 1) (i6 := 0) rfl rfl rfl rfl e1.symm (fun z => ?_) ⟨by show cells + 1 ≤ 613765; omega, by show slots + 6 ≤ 7254809; omega⟩ ⟨Nat.le_of_ble_eq_true rfl, Nat.le_of_ble_eq_true rfl⟩ d_LA_law_1050 d_LA_law_1051 d_LA_law_1054 d_LA_law_1056 (by decide) d_LA_law_1061 d_LA_law_1063 (by decide) d_LA_law_1066 d_LA_law_1067 d_LA_law_1068 d_LA_law_1069 d_LA_law_1071 d_LA_law_1072 d_LA_law_1073 (by decide) d_LA_law_1078 (by decide) (fun H locs hV => kn _ _ _ _ _ _ (e3.mono (by omega)) e4 hV (lv_sub hl [2, 3, 4, 5, 6] rfl))
  have z0 := wK0 z
  rw [← e2 z0]
  unfold wV
  exact if_pos z0
end LQ2
