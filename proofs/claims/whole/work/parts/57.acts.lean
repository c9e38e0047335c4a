theorem xu_cg {s t : XS} {A K I a k i : Nat} {V : Int32} (h : s a k i = t a k i) : xu s A K I V a k i = xu t A K I V a k i := by
  unfold xu
  split
  · rfl
  · exact h
theorem po_comm {st : XS} {a k i : Nat} {v a1 a2 a3 a4 a5 a6 a7 : Int32} (h5 : a ≠ 5) (h6 : a ≠ 6) (h7 : a ≠ 7) : f_PO_send (xu st a k i v) a1 a2 a3 a4 a5 a6 a7 = xu (f_PO_send st a1 a2 a3 a4 a5 a6 a7) a k i v := by
  have e5 : ∀ k2 i2, xu st a k i v 5 k2 i2 = st 5 k2 i2 := fun k2 i2 => xu_a (fun z => h5 z.symm)
  have e6 : ∀ k2 i2, xu st a k i v 6 k2 i2 = st 6 k2 i2 := fun k2 i2 => xu_a (fun z => h6 z.symm)
  funext a' k' i'
  by_cases e : a' = a ∧ k' = k ∧ i' = i
  · obtain ⟨rfl, rfl, rfl⟩ := e
    rw [xu_s, fr_PO_send (by simp [h5, h7]) (by simp), xu_s]
  · rw [xu_n e]
    unfold f_PO_send
    simp only [e5, e6]
    split
    · repeat apply xu_cg
      exact xu_n e
    · repeat apply xu_cg
      exact xu_n e
section ACT
variable {n : Nat} {st mt : XS}
theorem sub_long {x : Int32} (h0 : 0 ≤ x.toInt) (h1 : x.toInt ≤ 1000000000) : (x - (-1000000)).toInt = x.toInt + 1000000 ∧ (x - (-1000000000)).toInt = x.toInt + 1000000000 := by
  constructor
  · rw [Int32.toInt_sub, show (-1000000 : Int32).toInt = -1000000 from by decide, Int.bmod_eq_of_le (by omega) (by omega)]
    omega
  · rw [Int32.toInt_sub, show (-1000000000 : Int32).toInt = -1000000000 from by decide, Int.bmod_eq_of_le (by omega) (by omega)]
    omega
/-- a time long ago is so long ago on both sides -/
theorem ago_le {x y z c : Int32} (hz0 : 0 ≤ z.toInt) (hz1 : z.toInt ≤ 1000000000) (h : ago x y) (hc : c.toInt ≤ 10000) : c ≤ z - x ↔ c ≤ z - y := by
  rcases h with h | ⟨h1, h2⟩
  · rw [h]
  · obtain ⟨s1, s2⟩ := sub_long hz0 hz1
    rw [h1, h2]
    exact ⟨fun _ => i32_le.mpr (by omega), fun _ => i32_le.mpr (by omega)⟩
theorem nlt_le {x y : Int32} : x < y ↔ ¬ y ≤ x := by
  rw [i32_lt, i32_le]
  omega
theorem holder_eq (h : RR n st mt) {a : Int32} (ha8 : vp_in a 8) : f_SE_holderAt st a.toNatClampNeg (st 0 8 0) = if f_MO_isLeased mt a = 0 then -1 else mt 13 a.toNatClampNeg 0 := by
  obtain ⟨ha, hb, hd, hn, ht, hc, hq, hv, hw, hl, hk, hi, ho, hp, hs, hm, hN⟩ := h
  have h0 := (ht _ (xin_lt ha8)).2.2.2.1
  unfold f_SE_holderAt f_MO_isLeased
  rw [ha.1]
  rcases h0 with ⟨e1, e2, e3⟩ | ⟨e1, e2⟩
  · have hne : ¬ mt 13 a.toNatClampNeg 0 = -1 := fun z => by rw [z] at e3; exact absurd e3 (by decide)
    rw [e2, if_neg hne, e1]
    by_cases hc : 10000 ≤ mt 0 1 0 - mt 14 a.toNatClampNeg 0
    · rw [if_pos hc, if_pos hc, if_pos rfl]
    · rw [if_neg hc, if_neg hc, if_neg (by decide)]
  · obtain ⟨s1, s2⟩ := sub_long ha.2.1 ha.2.2
    have h01 : 0 ≤ (mt 0 1 0).toInt := ha.2.1
    have h4 : (10000 : Int32).toInt = 10000 := by decide
    rw [e1, e2, if_pos (i32_le.mpr (by omega))]
    by_cases hc : mt 13 a.toNatClampNeg 0 = -1
    · rw [if_pos hc, if_pos rfl]
    · rw [if_neg hc, if_pos (show 10000 ≤ mt 0 1 0 - (-1000000000) from i32_le.mpr (by omega)), if_pos rfl]
theorem lease_R (h : RR n st mt) {d : Nat} (hd8 : d < 8) {c : Int32} (hc0 : 0 ≤ c.toInt) : RR n (xu (xu st 10 4 d c) 10 5 d (st 0 8 0)) (xu (xu mt 13 d 0 c) 14 d 0 (mt 0 1 0)) := by
  obtain ⟨ha, hb, hd, hn, ht, hc, hq, hv, hw, hl, hk, hi, ho, hp, hs, hm, hN⟩ := h
  refine ⟨Ra_of ha ((Ag.rf.w (by decide)).w (by decide)) ((Ag.rf.wa (by decide)).wa (by decide)), Rb_of hb ((Ag.rf.w (by decide)).w (by decide)) ((Ag.rf.wa (by decide)).wa (by decide)), Rd_of hd ((Ag.rf.w (by decide)).w (by decide)) ((Ag.rf.wa (by decide)).wa (by decide)), Rn_of hn ((Ag.rf.w (by decide)).w (by decide)) ((Ag.rf.wa (by decide)).wa (by decide)), ?_, Rc_of hc ((Ag.rf.w (by decide)).w (by decide)) ((Ag.rf.wa (by decide)).wa (by decide)), Rq_of hq ((Ag.rf.wa (by decide)).wa (by decide)), Rv_of hv ((Ag.rf.w (by decide)).w (by decide)) ((Ag.rf.wa (by decide)).wa (by decide)), Rw_of hw ((Ag.rf.w (by decide)).w (by decide)) ((Ag.rf.wa (by decide)).wa (by decide)), Rl_of hl ((Ag.rf.w (by decide)).w (by decide)) ((Ag.rf.wa (by decide)).wa (by decide)), Rk_of hk ((Ag.rf.w (by decide)).w (by decide)) ((Ag.rf.wa (by decide)).wa (by decide)), Ri_of hi ((Ag.rf.w (by decide)).w (by decide)) ((Ag.rf.wa (by decide)).wa (by decide)), Ro_of ho ((Ag.rf.w (by decide)).w (by decide)) ((Ag.rf.wa (by decide)).wa (by decide)), Rp_of hp ((Ag.rf.w (by decide)).w (by decide)) ((Ag.rf.wa (by decide)).wa (by decide)), Rs_of hs ((Ag.rf.w (by decide)).w (by decide)) ((Ag.rf.wa (by decide)).wa (by decide)), Rm_of hm ((Ag.rf.wa (by decide)).wa (by decide)), hN⟩
  intro d' hd'
  have h0 := ht d' hd'
  by_cases e : d' = d
  · subst e
    simp (disch := first | decide | assumption | omega) only [xu_s, xu_f, xu_a, xu_o, xu_k, fill_a, fill_in, fill_out]
    exact ⟨h0.1, h0.2.1, h0.2.2.1, Or.inl ⟨trivial, ha.1, hc0⟩, h0.2.2.2.2⟩
  · simp (disch := first | decide | assumption | omega) only [xu_s, xu_f, xu_a, xu_o, xu_k, fill_a, fill_in, fill_out]
    exact h0
theorem ctrl_in {c : Int32} (h : ¬ f_BN_isController c = 0) : 0 ≤ c.toInt := by
  unfold f_BN_isController at h
  by_cases e : c < 0
  · rw [if_pos e] at h; exact absurd rfl h
  · exact i32_nlt e
theorem eq_lease (h : RR n st mt) (hz : Rz mt) {a1 a2 : Int32} : Ok n (f_BN_lease st a1 a2) (f_MO_lease mt a1 a2) := by
  have h' := h.th (v := 0)
  unfold f_BN_lease f_MO_lease
  by_cases e0 : f_BN_isController a1 = 0
  · rw [if_pos e0, if_pos (show f_MO_isController a1 = 0 from e0)]
    exact Ok.no h hz
  · rw [if_neg e0, if_neg (show ¬ f_MO_isController a1 = 0 from e0), h'.settable]
    by_cases e1 : f_MO_isAt (xu mt 0 0 0 0) a2 2 = 0
    · rw [if_pos e1, if_pos e1, if_pos rfl]
      exact Ok.no h hz
    · rw [if_neg e1, if_neg e1]
      obtain ⟨hd8, hst⟩ := at_in e1
      rw [show xu mt 0 0 0 0 8 a2.toNatClampNeg 0 = mt 8 a2.toNatClampNeg 0 from xu_a (by decide)]
      by_cases e2 : bz (mt 8 a2.toNatClampNeg 0) = 0
      · rw [if_pos e2, if_pos e2, if_pos rfl]
        exact Ok.no h hz
      · rw [if_neg e2, if_neg e2, if_neg (by decide), holder_eq h' hd8]
        have h2 := lease_R h' (xin_lt hd8) (ctrl_in e0)
        rw [show xu mt 0 0 0 0 0 1 0 = mt 0 1 0 from xu_f (by decide)] at h2
        have hz2 : Rz (xu (xu (xu mt 0 0 0 0) 13 a2.toNatClampNeg 0 a1) 14 a2.toNatClampNeg 0 (mt 0 1 0)) := Rz_of hz (((Ag.rf.w (by decide)).wa (by decide)).wa (by decide))
        have hok : Ok n (xu (xu st 10 4 a2.toNatClampNeg a1) 10 5 a2.toNatClampNeg (st 0 8 0), 1) (f_MO_settle (xu (xu (xu mt 0 0 0 0) 13 a2.toNatClampNeg 0 a1) 14 a2.toNatClampNeg 0 (mt 0 1 0)), 1) := by
          rw [settle_id h2.ch hz2]
          exact ⟨rfl, h2.mono (by omega), hz2⟩
        rw [show xu mt 0 0 0 0 13 a2.toNatClampNeg 0 = mt 13 a2.toNatClampNeg 0 from xu_a (by decide)]
        by_cases e3 : f_MO_isLeased (xu mt 0 0 0 0) a2 = 0
        · rw [if_pos e3, if_pos e3, if_pos rfl]
          exact hok
        · rw [if_neg e3, if_neg e3]
          have hne : ¬ mt 13 a2.toNatClampNeg 0 = -1 := fun z => e3 (by
            unfold f_MO_isLeased
            rw [if_pos (by simp (disch := first | decide | assumption | omega) only [xu_s, xu_f, xu_a, xu_o, xu_k, fill_a, fill_in, fill_out]; exact z)])
          rw [if_neg hne]
          by_cases e4 : mt 13 a2.toNatClampNeg 0 = a1
          · rw [if_pos e4, if_pos e4]
            exact hok
          · rw [if_neg e4, if_neg e4]
            exact Ok.no h hz
theorem fits_eq {i : Nat} {v l9 h9 s9 : Int32} (h0 : st 11 0 i = l9) (h1 : st 11 1 i = h9) (h2 : st 11 2 i = s9) (hs : 1 ≤ s9.toInt) : f_RA_fits st i v = f_MO_fits v l9 h9 s9 := by
  unfold f_RA_fits f_MO_fits
  rw [h0, h1, h2, if_neg (show ¬ s9 < 1 from fun z => by have := i32_lt.mp z; rw [show (1 : Int32).toInt = 1 from by decide] at this; omega)]
theorem eq_local (h : RR n st mt) (hz : Rz mt) {a1 a2 a3 : Int32} : Ok n (f_BN_local st a1 a2 a3) (f_MO_local mt a1 a2 a3) := by
  have h' := h.th (v := 0)
  unfold f_BN_local f_MO_local
  rw [h'.settable]
  by_cases e1 : f_MO_isAt (xu mt 0 0 0 0) a1 2 = 0
  · rw [if_pos e1, if_pos e1, if_pos rfl]
    exact Ok.no h hz
  · rw [if_neg e1, if_neg e1]
    obtain ⟨hd8, hst⟩ := at_in e1
    rw [show xu mt 0 0 0 0 8 a1.toNatClampNeg 0 = mt 8 a1.toNatClampNeg 0 from xu_a (by decide)]
    by_cases e2 : bz (mt 8 a1.toNatClampNeg 0) = 0
    · rw [if_pos e2, if_pos e2, if_pos rfl]
      exact Ok.no h hz
    · rw [if_neg e2, if_neg e2, if_neg (by decide)]
      have ht := h.2.2.2.2.1 _ (xin_lt hd8)
      obtain ⟨t1, t2, t3, t4, t5⟩ := ht
      obtain ⟨r0, r1, r2, r3⟩ := t5 e2
      by_cases e3 : a2 = -1
      · rw [if_pos e3, if_pos e3]
        have h2 : RR n (xu st 10 3 a1.toNatClampNeg a3) (xu (xu mt 0 0 0 0) 7 a1.toNatClampNeg 0 a3) := by
          obtain ⟨ha, hb, hd, hn, ht, hc, hq, hv, hw, hl, hk, hi, ho, hp, hs, hm, hN⟩ := h'
          refine ⟨Ra_of ha (Ag.rf.w (by decide)) (Ag.rf.wa (by decide)), Rb_of hb (Ag.rf.w (by decide)) (Ag.rf.wa (by decide)), Rd_of hd (Ag.rf.w (by decide)) (Ag.rf.wa (by decide)), Rn_of hn (Ag.rf.w (by decide)) (Ag.rf.wa (by decide)), ?_, Rc_of hc (Ag.rf.w (by decide)) (Ag.rf.wa (by decide)), Rq_of hq (Ag.rf.wa (by decide)), Rv_of hv (Ag.rf.w (by decide)) (Ag.rf.wa (by decide)), Rw_of hw (Ag.rf.w (by decide)) (Ag.rf.wa (by decide)), Rl_of hl (Ag.rf.w (by decide)) (Ag.rf.wa (by decide)), Rk_of hk (Ag.rf.w (by decide)) (Ag.rf.wa (by decide)), Ri_of hi (Ag.rf.w (by decide)) (Ag.rf.wa (by decide)), Ro_of ho (Ag.rf.w (by decide)) (Ag.rf.wa (by decide)), Rp_of hp (Ag.rf.w (by decide)) (Ag.rf.wa (by decide)), Rs_of hs (Ag.rf.w (by decide)) (Ag.rf.wa (by decide)), Rm_of hm (Ag.rf.wa (by decide)), hN⟩
          intro d' hd'
          have h0 := ht d' hd'
          by_cases e : d' = a1.toNatClampNeg
          · subst e
            simp (disch := first | decide | assumption | omega) only [xu_s, xu_f, xu_a, xu_o, xu_k, fill_a, fill_in, fill_out]
            simp (disch := first | decide | assumption | omega) only [xu_s, xu_f, xu_a, xu_o, xu_k, fill_a, fill_in, fill_out] at h0
            exact ⟨h0.1, h0.2.1, trivial, h0.2.2.2.1, h0.2.2.2.2⟩
          · simp (disch := first | decide | assumption | omega) only [xu_s, xu_f, xu_a, xu_o, xu_k, fill_a, fill_in, fill_out]
            simp (disch := first | decide | assumption | omega) only [xu_s, xu_f, xu_a, xu_o, xu_k, fill_a, fill_in, fill_out] at h0
            exact h0
        have hz2 : Rz (xu (xu mt 0 0 0 0) 7 a1.toNatClampNeg 0 a3) := Rz_of hz ((Ag.rf.w (by decide)).wa (by decide))
        rw [settle_id h2.ch hz2]
        exact ⟨rfl, h2.mono (by omega), hz2⟩
      · rw [if_neg e3, if_neg e3, t3]
        by_cases e4 : bz (mt 7 a1.toNatClampNeg 0) = 0
        · rw [if_pos e4, if_pos e4, fits_eq r0 r1 r2 r3]
          by_cases e5 : f_MO_fits a2 (mt 9 a1.toNatClampNeg 0) (mt 10 a1.toNatClampNeg 0) (mt 11 a1.toNatClampNeg 0) = 0
          · rw [if_pos e5, if_pos e5]
            exact Ok.no h hz
          · rw [if_neg e5, if_neg e5]
            have h2 : RR n (xu st 10 2 a1.toNatClampNeg a2) (xu (xu mt 0 0 0 0) 12 a1.toNatClampNeg 0 a2) := by
              obtain ⟨ha, hb, hd, hn, ht, hc, hq, hv, hw, hl, hk, hi, ho, hp, hs, hm, hN⟩ := h'
              refine ⟨Ra_of ha (Ag.rf.w (by decide)) (Ag.rf.wa (by decide)), Rb_of hb (Ag.rf.w (by decide)) (Ag.rf.wa (by decide)), Rd_of hd (Ag.rf.w (by decide)) (Ag.rf.wa (by decide)), Rn_of hn (Ag.rf.w (by decide)) (Ag.rf.wa (by decide)), ?_, Rc_of hc (Ag.rf.w (by decide)) (Ag.rf.wa (by decide)), Rq_of hq (Ag.rf.wa (by decide)), Rv_of hv (Ag.rf.w (by decide)) (Ag.rf.wa (by decide)), Rw_of hw (Ag.rf.w (by decide)) (Ag.rf.wa (by decide)), Rl_of hl (Ag.rf.w (by decide)) (Ag.rf.wa (by decide)), Rk_of hk (Ag.rf.w (by decide)) (Ag.rf.wa (by decide)), Ri_of hi (Ag.rf.w (by decide)) (Ag.rf.wa (by decide)), Ro_of ho (Ag.rf.w (by decide)) (Ag.rf.wa (by decide)), Rp_of hp (Ag.rf.w (by decide)) (Ag.rf.wa (by decide)), Rs_of hs (Ag.rf.w (by decide)) (Ag.rf.wa (by decide)), Rm_of hm (Ag.rf.wa (by decide)), hN⟩
              intro d' hd'
              have h0 := ht d' hd'
              by_cases e : d' = a1.toNatClampNeg
              · subst e
                simp (disch := first | decide | assumption | omega) only [xu_s, xu_f, xu_a, xu_o, xu_k, fill_a, fill_in, fill_out]
                simp (disch := first | decide | assumption | omega) only [xu_s, xu_f, xu_a, xu_o, xu_k, fill_a, fill_in, fill_out] at h0
                exact ⟨h0.1, trivial, h0.2.2.1, h0.2.2.2.1, h0.2.2.2.2⟩
              · simp (disch := first | decide | assumption | omega) only [xu_s, xu_f, xu_a, xu_o, xu_k, fill_a, fill_in, fill_out]
                simp (disch := first | decide | assumption | omega) only [xu_s, xu_f, xu_a, xu_o, xu_k, fill_a, fill_in, fill_out] at h0
                exact h0
            have hz2 : Rz (xu (xu mt 0 0 0 0) 12 a1.toNatClampNeg 0 a2) := Rz_of hz ((Ag.rf.w (by decide)).wa (by decide))
            rw [settle_id h2.ch hz2]
            exact ⟨rfl, h2.mono (by omega), hz2⟩
        · rw [if_neg e4, if_neg e4]
          exact Ok.no h hz
theorem inhibit_R (h : RR n st mt) {d c : Nat} (hd8 : d < 8) (hc4 : c < 4) (hst : mt 2 d 0 = 2) (hch : (c : Int) < (mt 5 d 0).toInt) {v : Int32} (hv0 : 0 ≤ v.toInt) : RR n (xu st 13 6 (20 * d + 4 * c) v) (xu mt 29 (4 * d + c) 0 v) := by
  obtain ⟨ha, hb, hd, hn, ht, hc, hq, hv, hw, hl, hk, hi, ho, hp, hs, hm, hN⟩ := h
  refine ⟨Ra_of ha (Ag.rf.w (by decide)) (Ag.rf.wa (by decide)), Rb_of hb (Ag.rf.w (by decide)) (Ag.rf.wa (by decide)), Rd_of hd (Ag.rf.w (by decide)) (Ag.rf.wa (by decide)), Rn_of hn (Ag.rf.w (by decide)) (Ag.rf.wa (by decide)), Rt_of ht (Ag.rf.w (by decide)) (Ag.rf.wa (by decide)), Rc_of hc (Ag.rf.w (by decide)) (Ag.rf.wa (by decide)), ?_, Rv_of hv (Ag.rf.w (by decide)) (Ag.rf.wa (by decide)), Rw_of hw (Ag.rf.w (by decide)) (Ag.rf.wa (by decide)), ?_, Rk_of hk (Ag.rf.w (by decide)) (Ag.rf.wa (by decide)), Ri_of hi (Ag.rf.w (by decide)) (Ag.rf.wa (by decide)), Ro_of ho (Ag.rf.w (by decide)) (Ag.rf.wa (by decide)), Rp_of hp (Ag.rf.w (by decide)) (Ag.rf.wa (by decide)), Rs_of hs (Ag.rf.w (by decide)) (Ag.rf.wa (by decide)), Rm_of hm (Ag.rf.wa (by decide)), hN⟩
  · intro d' hd' c' hc' hno
    have h0 := hq d' hd' c' hc' (by revert hno; simp (disch := first | decide | assumption | omega) only [xu_s, xu_f, xu_a, xu_o, xu_k, fill_a, fill_in, fill_out]; exact id)
    have hk9 : 4 * d' + c' ≠ 4 * d + c := fun e => by
      obtain ⟨rfl, rfl⟩ : d' = d ∧ c' = c := by omega
      revert hno
      simp (disch := first | decide | assumption | omega) only [xu_s, xu_f, xu_a, xu_o, xu_k, fill_a, fill_in, fill_out]
      exact fun z => z ⟨hst, hch⟩
    simp (disch := first | decide | assumption | omega) only [xu_s, xu_f, xu_a, xu_o, xu_k, fill_a, fill_in, fill_out]
    exact h0
  · intro d' hd' c' hc'
    have h0 := hl d' hd' c' hc'
    by_cases e : d' = d ∧ c' = c
    · obtain ⟨rfl, rfl⟩ := e
      simp (disch := first | decide | assumption | omega) only [xu_s, xu_f, xu_a, xu_o, xu_k, fill_a, fill_in, fill_out]
      obtain ⟨l1, l2, l3, l4, l5, l6, l7⟩ := h0
      exact ⟨l1, l2, Or.inl ⟨trivial, hv0⟩, l4, l5, l6, l7⟩
    · have hq9 : 20 * d' + 4 * c' ≠ 20 * d + 4 * c := by omega
      have hk9 : 4 * d' + c' ≠ 4 * d + c := by omega
      simp (disch := first | decide | assumption | omega) only [xu_s, xu_f, xu_a, xu_o, xu_k, fill_a, fill_in, fill_out]
      exact h0
theorem eq_inhibit (h : RR n st mt) (hz : Rz mt) (hb9 : n + 100 < 2147483647) {a1 a2 a3 : Int32} : Ok n (f_BN_inhibit st a1 a2 a3) (f_MO_inhibit mt a1 a2 a3) := by
  have h' := h.th (v := 0)
  unfold f_BN_inhibit f_MO_inhibit f_BN_isSpan
  rw [h'.sealed]
  by_cases e1 : f_MO_isAt (xu mt 0 0 0 0) a1 2 = 0
  · rw [if_pos e1, if_pos e1]
    exact Ok.no h hz
  · rw [if_neg e1, if_neg e1]
    obtain ⟨hd8, hst⟩ := at_in e1
    rw [h'.chan hd8]
    by_cases e2 : f_MO_isChannel (xu mt 0 0 0 0) a1 a2 = 0
    · rw [if_pos e2, if_pos e2]
      exact Ok.no h hz
    · rw [if_neg e2, if_neg e2]
      obtain ⟨-, hc1, hc2⟩ := chan_in e2
      have h5 := h'.ch _ (xin_lt hd8)
      have hc : vp_in a2 4 := vp_in_iff.mpr ⟨hc1, by omega⟩
      have hcn := i32_nat hc1
      rw [t4 hd8 hc]
      have hC := (h.2.2.2.2.2.1 _ (xin_lt hd8) _ (xin_lt hc)).1 (by
        rw [show xu mt 0 0 0 0 5 a1.toNatClampNeg 0 = mt 5 a1.toNatClampNeg 0 from xu_a (by decide)] at hc2
        omega)
      have hpz := hC.2.2.2.2.2.1
      by_cases e3 : mt 20 (4 * a1.toNatClampNeg + a2.toNatClampNeg) 0 = 0
      · rw [if_pos e3]
        have e4 := hpz.mpr e3
        simp only [if_pos e4]
        repeat' split
        all_goals exact Ok.no h hz
      · have e4 : ¬ bz (st 13 0 (20 * a1.toNatClampNeg + 4 * a2.toNatClampNeg)) = 0 := fun z => e3 (hpz.mp z)
        rw [if_neg e3, if_neg e4]
        by_cases e6 : a3 < 0
        · rw [if_pos e6, if_pos e6, if_pos rfl]
          exact Ok.no h hz
        · rw [if_neg e6, if_neg e6]
          by_cases e7 : 100000 < a3
          · rw [if_pos e7, if_pos rfl, if_neg (fun z => by have := i32_le.mp z; have := i32_lt.mp e7; omega)]
            exact Ok.no h hz
          · have hle : a3.toInt ≤ 100000 := by
              have h1 : ¬ (100000 : Int32).toInt < a3.toInt := fun z => e7 (i32_lt.mpr z)
              rw [show (100000 : Int32).toInt = 100000 from by decide] at h1
              omega
            rw [if_neg e7, if_neg (by decide), if_pos (i32_le.mpr (by rw [show (100000 : Int32).toInt = 100000 from by decide]; exact hle))]
            have ha := h.1
            have h0 := i32_nlt e6
            have hsum : (mt 0 1 0 + a3).toInt = (mt 0 1 0).toInt + a3.toInt := by
              rw [Int32.toInt_add, Int.bmod_eq_of_le (by have := ha.2.1; omega) (by have := ha.2.2; omega)]
            rw [ha.1]
            have h2 := inhibit_R h' (xin_lt hd8) (xin_lt hc) hst (by omega) (v := mt 0 1 0 + a3) (by rw [hsum]; have := ha.2.1; omega)
            obtain ⟨h3, hz3⟩ := settle_R h2 (by omega)
            have h4 := h3.mono (show n + 45 ≤ n + 100 by omega)
            refine ⟨rfl, ?_, ?_⟩
            · dsimp only
              exact h4
            · dsimp only
              exact hz3
theorem ack_R (h : RR n st mt) {d c : Nat} (hd8 : d < 8) (hc4 : c < 4) (hst : mt 2 d 0 = 2) (hch : (c : Int) < (mt 5 d 0).toInt) (hk2 : mt 33 (4 * d + c) 0 = 2) : RR n (xu st 14 2 (20 * d + 4 * c) 1) (xu mt 33 (4 * d + c) 0 3) := by
  obtain ⟨ha, hb, hd, hn, ht, hc, hq, hv, hw, hl, hk, hi, ho, hp, hs, hm, hN⟩ := h
  refine ⟨Ra_of ha (Ag.rf.w (by decide)) (Ag.rf.wa (by decide)), Rb_of hb (Ag.rf.w (by decide)) (Ag.rf.wa (by decide)), Rd_of hd (Ag.rf.w (by decide)) (Ag.rf.wa (by decide)), Rn_of hn (Ag.rf.w (by decide)) (Ag.rf.wa (by decide)), Rt_of ht (Ag.rf.w (by decide)) (Ag.rf.wa (by decide)), Rc_of hc (Ag.rf.w (by decide)) (Ag.rf.wa (by decide)), ?_, Rv_of hv (Ag.rf.w (by decide)) (Ag.rf.wa (by decide)), Rw_of hw (Ag.rf.w (by decide)) (Ag.rf.wa (by decide)), Rl_of hl (Ag.rf.w (by decide)) (Ag.rf.wa (by decide)), ?_, Ri_of hi (Ag.rf.w (by decide)) (Ag.rf.wa (by decide)), Ro_of ho (Ag.rf.w (by decide)) (Ag.rf.wa (by decide)), Rp_of hp (Ag.rf.w (by decide)) (Ag.rf.wa (by decide)), Rs_of hs (Ag.rf.w (by decide)) (Ag.rf.wa (by decide)), Rm_of hm (Ag.rf.wa (by decide)), hN⟩
  · intro d' hd' c' hc' hno
    have h0 := hq d' hd' c' hc' (by revert hno; simp (disch := first | decide | assumption | omega) only [xu_s, xu_f, xu_a, xu_o, xu_k, fill_a, fill_in, fill_out]; exact id)
    have hk9 : 4 * d' + c' ≠ 4 * d + c := fun e => by
      obtain ⟨rfl, rfl⟩ : d' = d ∧ c' = c := by omega
      revert hno
      simp (disch := first | decide | assumption | omega) only [xu_s, xu_f, xu_a, xu_o, xu_k, fill_a, fill_in, fill_out]
      exact fun z => z ⟨hst, hch⟩
    simp (disch := first | decide | assumption | omega) only [xu_s, xu_f, xu_a, xu_o, xu_k, fill_a, fill_in, fill_out]
    exact h0
  · intro d' hd' c' hc'
    have h0 := hk d' hd' c' hc'
    by_cases e : d' = d ∧ c' = c
    · obtain ⟨rfl, rfl⟩ := e
      rw [hk2] at h0
      simp (disch := first | decide | assumption | omega) only [xu_s, xu_f, xu_a, xu_o, xu_k, fill_a, fill_in, fill_out]
      rcases h0 with ⟨z, -⟩ | ⟨z, -⟩ | ⟨-, k1, k2, k3, k4⟩ | ⟨z, -⟩
      · exact absurd z (by decide)
      · exact absurd z (by decide)
      · exact Or.inr (Or.inr (Or.inr ⟨trivial, k1, rfl, k3, k4⟩))
      · exact absurd z (by decide)
    · have hq9 : 20 * d' + 4 * c' ≠ 20 * d + 4 * c := by omega
      have hk9 : 4 * d' + c' ≠ 4 * d + c := by omega
      simp (disch := first | decide | assumption | omega) only [xu_s, xu_f, xu_a, xu_o, xu_k, fill_a, fill_in, fill_out]
      exact h0
theorem sounds_iff (h : RR n st mt) {d c : Nat} (hd8 : d < 8) (hc4 : c < 4) : ¬ f_KN_sounds st (20 * d + 4 * c) = 0 ↔ mt 33 (4 * d + c) 0 = 2 := by
  have hk := h.2.2.2.2.2.2.2.2.2.2.1 d hd8 c hc4
  unfold f_KN_sounds
  rcases hk with ⟨k0, k1, k2⟩ | ⟨k0, k1, -⟩ | ⟨k0, k1, k2, -⟩ | ⟨k0, k1, k2, -⟩
  · rw [k0, if_pos k2]; decide
  · rw [k0, if_pos k1]; decide
  · rw [k0, k1, k2]; decide
  · rw [k0, k1, k2]; decide
theorem known_ch (h : RR n st mt) {d c : Nat} (hd8 : d < 8) (hc4 : c < 4) (hk2 : mt 33 (4 * d + c) 0 = 2) : mt 2 d 0 = 2 ∧ (c : Int) < (mt 5 d 0).toInt :=
  Decidable.not_not.mp (fun z => by
    have := (h.2.2.2.2.2.2.1 d hd8 c hc4 z).2.2.1
    rw [hk2] at this
    exact absurd this (by decide))
theorem eq_acknowledge (h : RR n st mt) (hz : Rz mt) (hb9 : n + 100 < 2147483647) {a1 a2 : Int32} : Ok n (f_BN_acknowledge st a1 a2) (f_MO_acknowledge mt a1 a2) := by
  have h' := h.th (v := 0)
  unfold f_BN_acknowledge f_MO_acknowledge
  by_cases e1 : f_BN_isDevice a1 = 0
  · rw [if_pos e1, if_pos (show f_MO_isDevice a1 = 0 from e1)]
    exact Ok.no h hz
  · rw [if_neg e1, if_neg (show ¬ f_MO_isDevice a1 = 0 from e1)]
    have hd8 := vd_isDevice e1
    unfold f_DE_hasChannel
    have hd := h.2.2.1 _ (xin_lt hd8)
    rw [hd.2.2.2.1]
    by_cases e2 : a2 < 0
    · rw [if_pos e2, if_pos e2, if_pos rfl]
      exact Ok.no h hz
    · rw [if_neg e2, if_neg e2]
      have hc1 := i32_nlt e2
      have hcn := i32_nat hc1
      by_cases e3 : 3 < a2
      · rw [if_pos e3, if_pos (show mt 5 a1.toNatClampNeg 0 ≤ a2 from i32_le.mpr (by have := i32_lt.mp e3; rw [show (3 : Int32).toInt = 3 from by decide] at this; have := hd.2.2.2.2.2.1.2; omega)), if_pos rfl]
        exact Ok.no h hz
      · have hc := ak_in e2 e3
        rw [if_neg e3, t4 hd8 hc]
        have hs := sounds_iff h (xin_lt hd8) (xin_lt hc)
        by_cases e4 : mt 33 (4 * a1.toNatClampNeg + a2.toNatClampNeg) 0 = 2
        · obtain ⟨hst, hch⟩ := known_ch h (xin_lt hd8) (xin_lt hc) e4
          have hne : ¬ mt 5 a1.toNatClampNeg 0 ≤ a2 := fun z => by have := i32_le.mp z; omega
          rw [if_pos e4, if_neg hne, if_neg (by decide), if_neg (hs.mpr e4)]
          have h2 := ack_R h' (xin_lt hd8) (xin_lt hc) (by simp (disch := first | decide | assumption | omega) only [xu_s, xu_f, xu_a, xu_o, xu_k, fill_a, fill_in, fill_out]; exact hst) (by simp (disch := first | decide | assumption | omega) only [xu_s, xu_f, xu_a, xu_o, xu_k, fill_a, fill_in, fill_out]; exact hch) (by simp (disch := first | decide | assumption | omega) only [xu_s, xu_f, xu_a, xu_o, xu_k, fill_a, fill_in, fill_out]; exact e4)
          have h3 := send_R (kd := 4) (d := a1) (pt := a2) (v := 0) (t := 0) (t' := 0) (w := 0) h2 (by omega) hd8 (by decide) (by simp (disch := first | decide | assumption | omega) only [xu_s, xu_f, xu_a, xu_o, xu_k, fill_a, fill_in, fill_out]; exact hst) (fun _ => ⟨hc1, by simp (disch := first | decide | assumption | omega) only [xu_s, xu_f, xu_a, xu_o, xu_k, fill_a, fill_in, fill_out]; omega⟩) (fun z => absurd z (by decide)) (fun z => absurd z (by decide)) (fun z => absurd z (by decide))
          have hz3 : Rz (f_MO_send (xu (xu mt 0 0 0 0) 33 (4 * a1.toNatClampNeg + a2.toNatClampNeg) 0 3) 4 a1 a2 0 0) := Rz_of hz (((Ag.rf.w (by decide)).wa (by decide)).tr (Ag.of fr_MO_send (by decide)))
          rw [settle_id h3.ch hz3]
          exact ⟨rfl, h3.mono (by omega), hz3⟩
        · rw [if_neg e4]
          have hs0 : f_KN_sounds st (20 * a1.toNatClampNeg + 4 * a2.toNatClampNeg) = 0 := Decidable.not_not.mp (fun z => e4 (hs.mp z))
          rw [if_pos hs0]
          split
          · exact Ok.no h hz
          · exact Ok.no h hz
end ACT
