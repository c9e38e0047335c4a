section DSC
variable {n : Nat} {st mt : XS} {d : Nat}
theorem device_R (h : RR n st mt) (hz : Rz mt) (hd8 : d < 8) (hst : ¬ mt 2 d 0 = 2) {b : Int32} (hb4 : vp_in b 4) :
    RR n (xu (xu (xu (xu st 8 2 d 1) 8 3 d b) 8 5 d 0) 10 1 d 0) (fill (xu (xu (xu (xu mt 2 d 0 1) 3 d 0 b) 5 d 0 0) 8 d 0 0) 20 d 0) ∧ Rz (fill (xu (xu (xu (xu mt 2 d 0 1) 3 d 0 b) 5 d 0 0) 8 d 0 0) 20 d 0) := by
  obtain ⟨ha, hb, hd, hn, ht, hc, hq, hv, hw, hl, hk, hi, ho, hp, hs, hm, hN⟩ := h
  have h6 : mt 6 d 0 = 0 := Decidable.not_not.mp (fun z => hst ((hd d hd8).2.2.2.2.2.2.2.2 z))
  refine ⟨⟨Ra_of ha ((((Ag.rf.w (by decide)).w (by decide)).w (by decide)).w (by decide)) (((((Ag.rf.wa (by decide)).wa (by decide)).wa (by decide)).wa (by decide)).wf (by decide)), Rb_of hb ((((Ag.rf.w (by decide)).w (by decide)).w (by decide)).w (by decide)) (((((Ag.rf.wa (by decide)).wa (by decide)).wa (by decide)).wa (by decide)).wf (by decide)), ?_, Rn_of hn ((((Ag.rf.w (by decide)).w (by decide)).w (by decide)).w (by decide)) (((((Ag.rf.wa (by decide)).wa (by decide)).wa (by decide)).wa (by decide)).wf (by decide)), ?_, ?_, ?_, Rv_of hv ((((Ag.rf.w (by decide)).w (by decide)).w (by decide)).w (by decide)) (((((Ag.rf.wa (by decide)).wa (by decide)).wa (by decide)).wa (by decide)).wf (by decide)), ?_, ?_, Rk_of hk ((((Ag.rf.w (by decide)).w (by decide)).w (by decide)).w (by decide)) (((((Ag.rf.wa (by decide)).wa (by decide)).wa (by decide)).wa (by decide)).wf (by decide)), Ri_of hi ((((Ag.rf.w (by decide)).w (by decide)).w (by decide)).w (by decide)) (((((Ag.rf.wa (by decide)).wa (by decide)).wa (by decide)).wa (by decide)).wf (by decide)), Ro_of ho ((((Ag.rf.w (by decide)).w (by decide)).w (by decide)).w (by decide)) (((((Ag.rf.wa (by decide)).wa (by decide)).wa (by decide)).wa (by decide)).wf (by decide)), Rp_of hp ((((Ag.rf.w (by decide)).w (by decide)).w (by decide)).w (by decide)) (((((Ag.rf.wa (by decide)).wa (by decide)).wa (by decide)).wa (by decide)).wf (by decide)), Rs_of hs ((((Ag.rf.w (by decide)).w (by decide)).w (by decide)).w (by decide)) (((((Ag.rf.wa (by decide)).wa (by decide)).wa (by decide)).wa (by decide)).wf (by decide)), ?_, hN⟩, ?_⟩
  · intro d' hd'
    have h0 := hd d' hd'
    by_cases e : d' = d
    · subst e
      simp (disch := first | decide | assumption | omega) only [xu_s, xu_f, xu_a, xu_o, xu_k, fill_a, fill_in, fill_out]
      obtain ⟨p1, p2, p3, p4, p5, p6, p7, p8, p9⟩ := h0
      exact ⟨trivial, trivial, p3, trivial, p5, by decide, fun _ => hb4, fun z => absurd z (by decide), fun z => absurd h6 z⟩
    · simp (disch := first | decide | assumption | omega) only [xu_s, xu_f, xu_a, xu_o, xu_k, fill_a, fill_in, fill_out]
      exact h0
  · intro d' hd'
    have h0 := ht d' hd'
    by_cases e : d' = d
    · subst e
      simp (disch := first | decide | assumption | omega) only [xu_s, xu_f, xu_a, xu_o, xu_k, fill_a, fill_in, fill_out]
      exact ⟨trivial, h0.2.1, h0.2.2.1, h0.2.2.2.1, fun z => absurd rfl z⟩
    · simp (disch := first | decide | assumption | omega) only [xu_s, xu_f, xu_a, xu_o, xu_k, fill_a, fill_in, fill_out]
      exact h0
  · intro d' hd' c hc4
    have h0 := hc d' hd' c hc4
    by_cases e : d' = d
    · subst e
      simp (disch := first | decide | assumption | omega) only [xu_s, xu_f, xu_a, xu_o, xu_k, fill_a, fill_in, fill_out]
      exact ⟨fun z => absurd z (by rw [show (0 : Int32).toInt = 0 from by decide]; omega), fun _ => trivial, by decide⟩
    · simp (disch := first | decide | assumption | omega) only [xu_s, xu_f, xu_a, xu_o, xu_k, fill_a, fill_in, fill_out]
      exact h0
  · intro d' hd' c hc4 hno
    by_cases e : d' = d
    · subst e
      have h0 := hq d' hd' c hc4 (fun z => hst z.1)
      simp (disch := first | decide | assumption | omega) only [xu_s, xu_f, xu_a, xu_o, xu_k, fill_a, fill_in, fill_out]
      exact h0
    · have h0 := hq d' hd' c hc4
      revert hno
      simp (disch := first | decide | assumption | omega) only [xu_s, xu_f, xu_a, xu_o, xu_k, fill_a, fill_in, fill_out]
      exact h0
  · intro d' hd' c hc4
    have h0 := hw d' hd' c hc4
    by_cases e : d' = d
    · subst e
      simp (disch := first | decide | assumption | omega) only [xu_s, xu_f, xu_a, xu_o, xu_k, fill_a, fill_in, fill_out]
      exact ⟨h0.1, fun z => absurd h6 z⟩
    · simp (disch := first | decide | assumption | omega) only [xu_s, xu_f, xu_a, xu_o, xu_k, fill_a, fill_in, fill_out]
      exact h0
  · intro d' hd' c hc4
    have h0 := hl d' hd' c hc4
    by_cases e : d' = d
    · subst e
      have h1 := hq d' hd' c hc4 (fun z => hst z.1)
      obtain ⟨l1, l2, l3, l4, l5, l6, l7⟩ := h0
      simp (disch := first | decide | assumption | omega) only [xu_s, xu_f, xu_a, xu_o, xu_k, fill_a, fill_in, fill_out]
      exact ⟨⟨fun z => absurd h1.1 (l1.mp z).2.1, fun z => absurd trivial z.1⟩, l2, l3, l4, l5, l6, fun z => absurd h1.2.1 z⟩
    · simp (disch := first | decide | assumption | omega) only [xu_s, xu_f, xu_a, xu_o, xu_k, fill_a, fill_in, fill_out]
      exact h0
  · intro j hj
    have h0 := hm j (by revert hj; simp (disch := first | decide | assumption | omega) only [xu_s, xu_f, xu_a, xu_o, xu_k, fill_a, fill_in, fill_out]; exact id)
    simp (disch := first | decide | assumption | omega) only [xu_s, xu_f, xu_a, xu_o, xu_k, fill_a, fill_in, fill_out]
    have hne : (mt 38 j 0).toNatClampNeg ≠ d := fun e => hst (by rw [← e]; exact h0.2.2.1)
    simp (disch := first | decide | assumption | omega) only [xu_s, xu_f, xu_a, xu_o, xu_k, fill_a, fill_in, fill_out]
    exact h0
  · intro d' hd' c hc4
    have h0 := hz d' hd' c hc4
    by_cases e : d' = d
    · subst e
      simp (disch := first | decide | assumption | omega) only [xu_s, xu_f, xu_a, xu_o, xu_k, fill_a, fill_in, fill_out]
      intro z
      exact absurd z (by decide)
    · simp (disch := first | decide | assumption | omega) only [xu_s, xu_f, xu_a, xu_o, xu_k, fill_a, fill_in, fill_out]
      exact h0
theorem eq_device (h : RR n st mt) (hz : Rz mt) {a1 a2 : Int32} : Ok n (f_BN_device st a1 a2) (f_MO_device mt a1 a2) := by
  unfold f_BN_device f_MO_device
  by_cases e1 : f_BN_isDevice a1 = 0
  · rw [if_pos e1, if_pos (show f_MO_isDevice a1 = 0 from e1)]
    exact Ok.no h hz
  · rw [if_neg e1, if_neg (show ¬ f_MO_isDevice a1 = 0 from e1)]
    have hd8 := vd_isDevice e1
    by_cases e2 : f_BN_isBed a2 = 0
    · rw [if_pos e2, if_pos (show f_MO_isBed a2 = 0 from e2)]
      exact Ok.no h hz
    · rw [if_neg e2, if_neg (show ¬ f_MO_isBed a2 = 0 from e2), (h.2.2.1 _ (xin_lt hd8)).1]
      by_cases e3 : mt 2 a1.toNatClampNeg 0 = 2
      · rw [if_pos e3, if_pos e3]
        exact Ok.no h hz
      · rw [if_neg e3, if_neg e3, dev_loop hd8 _ _ _ (lp4_st hd8), x4n hd8, fillx_fill]
        have := device_R (b := a2) (h.th (v := 0)) (hz.th (v := 0)) (xin_lt hd8) (by simp (disch := first | decide | assumption | omega) only [xu_s, xu_f, xu_a, xu_o, xu_k, fill_a, fill_in, fill_out]; exact e3) (vd_isBed e2)
        exact ⟨rfl, this.1.mono (by omega), this.2⟩
theorem n11 {P : Prop} {x : Int32} (h : x = 1) (z : x = 2) : P := absurd (h.symm.trans z) (by decide)
theorem channel_R (h : RR n st mt) (hz : Rz mt) (hd8 : d < 8) (hst : mt 2 d 0 = 1) {c : Nat} (hc4 : c < 4) (hch : (c : Int) = (mt 5 d 0).toInt) {u l9 h9 s9 : Int32} (hs1 : 1 ≤ s9.toInt) :
    RR n (xu (xu (xu (xu (xu (xu st 12 3 (20 * d + 4 * c) u) 11 0 (20 * d + 4 * c) l9) 11 1 (20 * d + 4 * c) h9) 11 2 (20 * d + 4 * c) s9) 13 0 (20 * d + 4 * c) 0) 8 5 d (st 8 5 d + 1)) (xu (xu (xu (xu (xu mt 16 (4 * d + c) 0 u) 17 (4 * d + c) 0 l9) 18 (4 * d + c) 0 h9) 19 (4 * d + c) 0 s9) 5 d 0 (mt 5 d 0 + 1)) ∧ Rz (xu (xu (xu (xu (xu mt 16 (4 * d + c) 0 u) 17 (4 * d + c) 0 l9) 18 (4 * d + c) 0 h9) 19 (4 * d + c) 0 s9) 5 d 0 (mt 5 d 0 + 1)) := by
  obtain ⟨ha, hb, hd, hn, ht, hc, hq, hv, hw, hl, hk, hi, ho, hp, hs, hm, hN⟩ := h
  have h6 : mt 6 d 0 = 0 := Decidable.not_not.mp (fun z => n11 hst ((hd d hd8).2.2.2.2.2.2.2.2 z))
  have hinc : (mt 5 d 0 + 1).toInt = (c : Int) + 1 := by rw [i32_inc (by omega) (by omega)]; omega
  refine ⟨⟨Ra_of ha ((((((Ag.rf.w (by decide)).w (by decide)).w (by decide)).w (by decide)).w (by decide)).w (by decide)) (((((Ag.rf.wa (by decide)).wa (by decide)).wa (by decide)).wa (by decide)).wa (by decide)), Rb_of hb ((((((Ag.rf.w (by decide)).w (by decide)).w (by decide)).w (by decide)).w (by decide)).w (by decide)) (((((Ag.rf.wa (by decide)).wa (by decide)).wa (by decide)).wa (by decide)).wa (by decide)), ?_, Rn_of hn ((((((Ag.rf.w (by decide)).w (by decide)).w (by decide)).w (by decide)).w (by decide)).w (by decide)) (((((Ag.rf.wa (by decide)).wa (by decide)).wa (by decide)).wa (by decide)).wa (by decide)), ?_, ?_, ?_, Rv_of hv ((((((Ag.rf.w (by decide)).w (by decide)).w (by decide)).w (by decide)).w (by decide)).w (by decide)) (((((Ag.rf.wa (by decide)).wa (by decide)).wa (by decide)).wa (by decide)).wa (by decide)), ?_, Rl_of hl ((((((Ag.rf.w (by decide)).w (by decide)).w (by decide)).w (by decide)).w (by decide)).w (by decide)) (((((Ag.rf.wa (by decide)).wa (by decide)).wa (by decide)).wa (by decide)).wa (by decide)), Rk_of hk ((((((Ag.rf.w (by decide)).w (by decide)).w (by decide)).w (by decide)).w (by decide)).w (by decide)) (((((Ag.rf.wa (by decide)).wa (by decide)).wa (by decide)).wa (by decide)).wa (by decide)), Ri_of hi ((((((Ag.rf.w (by decide)).w (by decide)).w (by decide)).w (by decide)).w (by decide)).w (by decide)) (((((Ag.rf.wa (by decide)).wa (by decide)).wa (by decide)).wa (by decide)).wa (by decide)), Ro_of ho ((((((Ag.rf.w (by decide)).w (by decide)).w (by decide)).w (by decide)).w (by decide)).w (by decide)) (((((Ag.rf.wa (by decide)).wa (by decide)).wa (by decide)).wa (by decide)).wa (by decide)), Rp_of hp ((((((Ag.rf.w (by decide)).w (by decide)).w (by decide)).w (by decide)).w (by decide)).w (by decide)) (((((Ag.rf.wa (by decide)).wa (by decide)).wa (by decide)).wa (by decide)).wa (by decide)), Rs_of hs ((((((Ag.rf.w (by decide)).w (by decide)).w (by decide)).w (by decide)).w (by decide)).w (by decide)) (((((Ag.rf.wa (by decide)).wa (by decide)).wa (by decide)).wa (by decide)).wa (by decide)), ?_, hN⟩, ?_⟩
  · intro d' hd'
    have h0 := hd d' hd'
    by_cases e : d' = d
    · subst e
      simp (disch := first | decide | assumption | omega) only [xu_s, xu_f, xu_a, xu_o, xu_k, fill_a, fill_in, fill_out]
      obtain ⟨p1, p2, p3, p4, p5, p6, p7, p8, p9⟩ := h0
      exact ⟨p1, p2, p3, by rw [p4], p5, by rw [hinc]; omega, p7, p8, p9⟩
    · simp (disch := first | decide | assumption | omega) only [xu_s, xu_f, xu_a, xu_o, xu_k, fill_a, fill_in, fill_out]
      exact h0
  · intro d' hd'
    have h0 := ht d' hd'
    have hne : 200 + d' ≠ 20 * d + 4 * c := by omega
    simp (disch := first | decide | assumption | omega) only [xu_s, xu_f, xu_a, xu_o, xu_k, fill_a, fill_in, fill_out]
    exact h0
  · intro d' hd' c' hc'
    have h0 := hc d' hd' c' hc'
    by_cases e : d' = d
    · subst e
      by_cases e2 : c' = c
      · subst e2
        have hz0 := h0.2.1 (by omega)
        simp (disch := first | decide | assumption | omega) only [xu_s, xu_f, xu_a, xu_o, xu_k, fill_a, fill_in, fill_out]
        rw [hinc]
        exact ⟨fun _ => ⟨trivial, trivial, trivial, trivial, hs1, ⟨fun _ => hz0, fun _ => rfl⟩, fun z => absurd hz0 z⟩, fun z => absurd (by omega) z, h0.2.2⟩
      · have hq9 : 20 * d' + 4 * c' ≠ 20 * d' + 4 * c := by omega
        have hk9 : 4 * d' + c' ≠ 4 * d' + c := by omega
        simp (disch := first | decide | assumption | omega) only [xu_s, xu_f, xu_a, xu_o, xu_k, fill_a, fill_in, fill_out]
        rw [hinc]
        exact ⟨fun z => h0.1 (by omega), fun z => h0.2.1 (by omega), h0.2.2⟩
    · have hq9 : 20 * d' + 4 * c' ≠ 20 * d + 4 * c := by omega
      have hk9 : 4 * d' + c' ≠ 4 * d + c := by omega
      simp (disch := first | decide | assumption | omega) only [xu_s, xu_f, xu_a, xu_o, xu_k, fill_a, fill_in, fill_out]
      exact h0
  · intro d' hd' c' hc' hno
    by_cases e : d' = d
    · subst e
      have h0 := hq d' hd' c' hc' (fun z => n11 hst z.1)
      simp (disch := first | decide | assumption | omega) only [xu_s, xu_f, xu_a, xu_o, xu_k, fill_a, fill_in, fill_out]
      exact h0
    · have h0 := hq d' hd' c' hc'
      revert hno
      simp (disch := first | decide | assumption | omega) only [xu_s, xu_f, xu_a, xu_o, xu_k, fill_a, fill_in, fill_out]
      exact h0
  · intro d' hd' c' hc'
    have h0 := hw d' hd' c' hc'
    by_cases e : d' = d
    · subst e
      simp (disch := first | decide | assumption | omega) only [xu_s, xu_f, xu_a, xu_o, xu_k, fill_a, fill_in, fill_out]
      exact ⟨h0.1, fun z => absurd h6 z⟩
    · simp (disch := first | decide | assumption | omega) only [xu_s, xu_f, xu_a, xu_o, xu_k, fill_a, fill_in, fill_out]
      exact h0
  · intro j hj
    have h0 := hm j (by revert hj; simp (disch := first | decide | assumption | omega) only [xu_s, xu_f, xu_a, xu_o, xu_k, fill_a, fill_in, fill_out]; exact id)
    have hne : (mt 38 j 0).toNatClampNeg ≠ d := fun e => n11 hst (by rw [← e]; exact h0.2.2.1)
    simp (disch := first | decide | assumption | omega) only [xu_s, xu_f, xu_a, xu_o, xu_k, fill_a, fill_in, fill_out]
    exact h0
  · intro d' hd' c' hc'
    have h0 := hz d' hd' c' hc'
    by_cases e : d' = d
    · subst e
      simp (disch := first | decide | assumption | omega) only [xu_s, xu_f, xu_a, xu_o, xu_k, fill_a, fill_in, fill_out]
      intro z
      exact n11 hst z
    · simp (disch := first | decide | assumption | omega) only [xu_s, xu_f, xu_a, xu_o, xu_k, fill_a, fill_in, fill_out]
      exact h0
theorem range_1 {l9 h9 s9 : Int32} (h : ¬ f_BN_isRange l9 h9 s9 = 0) : 1 ≤ s9.toInt := by
  unfold f_BN_isRange at h
  by_cases e : s9 < 1
  · exfalso
    revert h
    repeat' split
    all_goals simp_all
  · have h1 : ¬ s9.toInt < (1 : Int32).toInt := fun z => e (i32_lt.mpr z)
    rw [show (1 : Int32).toInt = 1 from by decide] at h1
    omega
theorem eq_channel (h : RR n st mt) (hz : Rz mt) {a1 a2 a3 a4 a5 : Int32} : OkT n 1 (f_BN_channel st a1 a2 a3 a4 a5) (f_MO_channel mt a1 a2 a3 a4 a5) := by
  unfold f_BN_channel f_MO_channel f_BN_isUnit
  rw [h.opn]
  by_cases e1 : f_MO_isAt mt a1 1 = 0
  · rw [if_pos e1, if_pos e1]
    exact OkT.no h hz (by decide) (by decide)
  · rw [if_neg e1, if_neg e1]
    obtain ⟨hd8, hst⟩ := at_in e1
    by_cases e2 : a2 < 0
    · rw [if_pos e2, if_pos e2, if_pos rfl]
      exact OkT.no h hz (by decide) (by decide)
    · rw [if_neg e2, if_neg e2]
      by_cases e3 : 16 ≤ a2
      · rw [if_pos e3, if_pos e3, if_pos rfl]
        exact OkT.no h hz (by decide) (by decide)
      · rw [if_neg e3, if_neg e3, if_neg (by decide)]
        by_cases e4 : f_BN_isRange a3 a4 a5 = 0
        · rw [if_pos e4, if_pos (show f_MO_isRange a3 a4 a5 = 0 from e4)]
          exact OkT.no h hz (by decide) (by decide)
        · rw [if_neg e4, if_neg (show ¬ f_MO_isRange a3 a4 a5 = 0 from e4)]
          have hd := h.2.2.1 _ (xin_lt hd8)
          have e5 := hd.2.2.2.1
          have hr := hd.2.2.2.2.2.1
          rw [e5]
          have h4 : (4 : Int32).toInt = 4 := by decide
          by_cases e6 : mt 5 a1.toNatClampNeg 0 = 4
          · rw [if_neg (by rw [e6]; decide), if_pos e6]
            exact OkT.no h hz (by decide) (by decide)
          · have hc := ch_in hr e6
            have hci := vp_in_iff.mp hc
            have hcn := i32_nat hci.1
            rw [if_pos (i32_lt.mpr (by rw [h4]; have := hci.2; omega)), if_neg e6, t4 hd8 hc]
            have := channel_R (u := a2) (l9 := a3) (h9 := a4) (s9 := a5) (c := (mt 5 a1.toNatClampNeg 0).toNatClampNeg) (h.th (v := 0)) (hz.th (v := 0)) (xin_lt hd8) (by simp (disch := first | decide | assumption | omega) only [xu_s, xu_f, xu_a, xu_o, xu_k, fill_a, fill_in, fill_out]; exact hst) (xin_lt hc) (by simp (disch := first | decide | assumption | omega) only [xu_s, xu_f, xu_a, xu_o, xu_k, fill_a, fill_in, fill_out]; exact hcn) (range_1 e4)
            have e9 : xu mt 0 0 0 0 5 a1.toNatClampNeg 0 = mt 5 a1.toNatClampNeg 0 := xu_a (by decide)
            rw [e9, e5] at this
            refine ⟨by dsimp only; simp (disch := first | decide | assumption | omega) only [xu_s, xu_f, xu_a, xu_o, xu_k, fill_a, fill_in, fill_out]; rfl, fun _ => ?_, this.1.mono (by omega), this.2⟩
            show mt 5 a1.toNatClampNeg 0 = mt 5 a1.toNatClampNeg 0 + 1 - 1
            rw [Int32.add_sub_cancel]
theorem alarm_R (h : RR n st mt) (hz : Rz mt) (hd8 : d < 8) (hst : mt 2 d 0 = 1) {c : Nat} (hc4 : c < 4) (hch : (c : Int) < (mt 5 d 0).toInt) {p9 l9 t9 : Int32} (hp1 : 1 ≤ p9.toInt) :
    RR n (xu (xu (xu (xu st 13 0 (20 * d + 4 * c) 1) 13 1 (20 * d + 4 * c) p9) 13 2 (20 * d + 4 * c) l9) 13 3 (20 * d + 4 * c) t9) (xu (xu (xu mt 20 (4 * d + c) 0 p9) 21 (4 * d + c) 0 l9) 22 (4 * d + c) 0 t9) ∧ Rz (xu (xu (xu mt 20 (4 * d + c) 0 p9) 21 (4 * d + c) 0 l9) 22 (4 * d + c) 0 t9) := by
  obtain ⟨ha, hb, hd, hn, ht, hc, hq, hv, hw, hl, hk, hi, ho, hp, hs, hm, hN⟩ := h
  have hp0 : ¬ p9 = 0 := fun z => by rw [z] at hp1; exact absurd hp1 (by decide)
  refine ⟨⟨Ra_of ha ((((Ag.rf.w (by decide)).w (by decide)).w (by decide)).w (by decide)) (((Ag.rf.wa (by decide)).wa (by decide)).wa (by decide)), Rb_of hb ((((Ag.rf.w (by decide)).w (by decide)).w (by decide)).w (by decide)) (((Ag.rf.wa (by decide)).wa (by decide)).wa (by decide)), Rd_of hd ((((Ag.rf.w (by decide)).w (by decide)).w (by decide)).w (by decide)) (((Ag.rf.wa (by decide)).wa (by decide)).wa (by decide)), Rn_of hn ((((Ag.rf.w (by decide)).w (by decide)).w (by decide)).w (by decide)) (((Ag.rf.wa (by decide)).wa (by decide)).wa (by decide)), Rt_of ht ((((Ag.rf.w (by decide)).w (by decide)).w (by decide)).w (by decide)) (((Ag.rf.wa (by decide)).wa (by decide)).wa (by decide)), ?_, Rq_of hq (((Ag.rf.wa (by decide)).wa (by decide)).wa (by decide)), Rv_of hv ((((Ag.rf.w (by decide)).w (by decide)).w (by decide)).w (by decide)) (((Ag.rf.wa (by decide)).wa (by decide)).wa (by decide)), Rw_of hw ((((Ag.rf.w (by decide)).w (by decide)).w (by decide)).w (by decide)) (((Ag.rf.wa (by decide)).wa (by decide)).wa (by decide)), ?_, Rk_of hk ((((Ag.rf.w (by decide)).w (by decide)).w (by decide)).w (by decide)) (((Ag.rf.wa (by decide)).wa (by decide)).wa (by decide)), Ri_of hi ((((Ag.rf.w (by decide)).w (by decide)).w (by decide)).w (by decide)) (((Ag.rf.wa (by decide)).wa (by decide)).wa (by decide)), Ro_of ho ((((Ag.rf.w (by decide)).w (by decide)).w (by decide)).w (by decide)) (((Ag.rf.wa (by decide)).wa (by decide)).wa (by decide)), Rp_of hp ((((Ag.rf.w (by decide)).w (by decide)).w (by decide)).w (by decide)) (((Ag.rf.wa (by decide)).wa (by decide)).wa (by decide)), Rs_of hs ((((Ag.rf.w (by decide)).w (by decide)).w (by decide)).w (by decide)) (((Ag.rf.wa (by decide)).wa (by decide)).wa (by decide)), Rm_of hm (((Ag.rf.wa (by decide)).wa (by decide)).wa (by decide)), hN⟩, ?_⟩
  · intro d' hd' c' hc'
    have h0 := hc d' hd' c' hc'
    by_cases e : d' = d ∧ c' = c
    · obtain ⟨rfl, rfl⟩ := e
      simp (disch := first | decide | assumption | omega) only [xu_s, xu_f, xu_a, xu_o, xu_k, fill_a, fill_in, fill_out]
      obtain ⟨u1, u2, u3, u4, u5, u6, u7⟩ := h0.1 hch
      exact ⟨fun _ => ⟨u1, u2, u3, u4, u5, ⟨fun z => absurd z (by decide), fun z => absurd z hp0⟩, fun _ => ⟨trivial, trivial, trivial⟩⟩, fun z => absurd hch z, by omega⟩
    · have hq9 : 20 * d' + 4 * c' ≠ 20 * d + 4 * c := by omega
      have hk9 : 4 * d' + c' ≠ 4 * d + c := by omega
      simp (disch := first | decide | assumption | omega) only [xu_s, xu_f, xu_a, xu_o, xu_k, fill_a, fill_in, fill_out]
      exact h0
  · intro d' hd' c' hc'
    have h0 := hl d' hd' c' hc'
    by_cases e : d' = d ∧ c' = c
    · obtain ⟨rfl, rfl⟩ := e
      have h1 := hq d' hd' c' hc' (fun z => n11 hst z.1)
      obtain ⟨l1, l2, l3, l4, l5, l6, l7⟩ := h0
      simp (disch := first | decide | assumption | omega) only [xu_s, xu_f, xu_a, xu_o, xu_k, fill_a, fill_in, fill_out]
      exact ⟨⟨fun z => absurd h1.1 (l1.mp z).2.1, fun z => absurd h1.1 z.2.1⟩, l2, l3, l4, l5, l6, fun z => absurd h1.2.1 z⟩
    · have hq9 : 20 * d' + 4 * c' ≠ 20 * d + 4 * c := by omega
      have hk9 : 4 * d' + c' ≠ 4 * d + c := by omega
      simp (disch := first | decide | assumption | omega) only [xu_s, xu_f, xu_a, xu_o, xu_k, fill_a, fill_in, fill_out]
      exact h0
  · intro d' hd' c' hc'
    have h0 := hz d' hd' c' hc'
    by_cases e : d' = d
    · subst e
      simp (disch := first | decide | assumption | omega) only [xu_s, xu_f, xu_a, xu_o, xu_k, fill_a, fill_in, fill_out]
      intro z
      exact n11 hst z
    · have hk9 : 4 * d' + c' ≠ 4 * d + c := by omega
      simp (disch := first | decide | assumption | omega) only [xu_s, xu_f, xu_a, xu_o, xu_k, fill_a, fill_in, fill_out]
      exact h0
theorem eq_alarm (h : RR n st mt) (hz : Rz mt) {a1 a2 a3 a4 a5 : Int32} : Ok n (f_BN_alarm st a1 a2 a3 a4 a5) (f_MO_alarm mt a1 a2 a3 a4 a5) := by
  have h' := h.th (v := 0)
  unfold f_BN_alarm f_MO_alarm f_BN_isSpan
  rw [h'.opn]
  by_cases e1 : f_MO_isAt (xu mt 0 0 0 0) a1 1 = 0
  · rw [if_pos e1, if_pos e1]
    exact Ok.no h hz
  · rw [if_neg e1, if_neg e1]
    obtain ⟨hd8, hst⟩ := at_in e1
    rw [h'.chan hd8]
    by_cases e2 : f_MO_isChannel (xu mt 0 0 0 0) a1 a2 = 0
    · rw [if_pos e2, if_pos e2]
      exact Ok.no h hz
    · rw [if_neg e2, if_neg e2]
      by_cases e3 : a3 < 1
      · rw [if_pos e3, if_pos e3]
        exact Ok.no h hz
      · rw [if_neg e3, if_neg e3]
        by_cases e4 : 3 < a3
        · rw [if_pos e4, if_pos e4]
          exact Ok.no h hz
        · rw [if_neg e4, if_neg e4]
          by_cases e5 : f_BN_isNumber a4 = 0
          · rw [if_pos e5, if_pos (show f_MO_isNumber a4 = 0 from e5)]
            exact Ok.no h hz
          · rw [if_neg e5, if_neg (show ¬ f_MO_isNumber a4 = 0 from e5)]
            by_cases e6 : a5 < 0
            · rw [if_pos e6, if_pos e6, if_pos rfl]
              exact Ok.no h hz
            · rw [if_neg e6, if_neg e6]
              by_cases e7 : 100000 < a5
              · rw [if_pos e7, if_pos rfl, if_neg (fun z => by have := i32_le.mp z; have := i32_lt.mp e7; omega)]
                exact Ok.no h hz
              · rw [if_neg e7, if_neg (by decide), if_pos (i32_le.mpr (by have h1 : ¬ (100000 : Int32).toInt < a5.toInt := fun z => e7 (i32_lt.mpr z); omega))]
                obtain ⟨-, hc1, hc2⟩ := chan_in e2
                have h5 := (h'.ch _ (xin_lt hd8))
                have hc : vp_in a2 4 := vp_in_iff.mpr ⟨hc1, by omega⟩
                have hcn := i32_nat hc1
                rw [t4 hd8 hc]
                have := alarm_R (c := a2.toNatClampNeg) (p9 := a3) (l9 := a4) (t9 := a5) h' (hz.th (v := 0)) (xin_lt hd8) hst (xin_lt hc) (by omega) (by have h1 : ¬ a3.toInt < (1 : Int32).toInt := fun z => e3 (i32_lt.mpr z); rw [show (1 : Int32).toInt = 1 from by decide] at h1; omega)
                exact ⟨rfl, this.1.mono (by omega), this.2⟩
theorem setPoint_R (h : RR n st mt) (hd8 : d < 8) (hst : mt 2 d 0 = 1) {l9 h9 s9 : Int32} (hs1 : 1 ≤ s9.toInt) :
    RR n (xu (xu (xu (xu (xu st 10 1 d 1) 11 0 (200 + d) l9) 11 1 (200 + d) h9) 11 2 (200 + d) s9) 10 2 d l9) (xu (xu (xu (xu (xu mt 8 d 0 1) 9 d 0 l9) 10 d 0 h9) 11 d 0 s9) 12 d 0 l9) := by
  obtain ⟨ha, hb, hd, hn, ht, hc, hq, hv, hw, hl, hk, hi, ho, hp, hs, hm, hN⟩ := h
  refine ⟨Ra_of ha (((((Ag.rf.w (by decide)).w (by decide)).w (by decide)).w (by decide)).w (by decide)) (((((Ag.rf.wa (by decide)).wa (by decide)).wa (by decide)).wa (by decide)).wa (by decide)), Rb_of hb (((((Ag.rf.w (by decide)).w (by decide)).w (by decide)).w (by decide)).w (by decide)) (((((Ag.rf.wa (by decide)).wa (by decide)).wa (by decide)).wa (by decide)).wa (by decide)), Rd_of hd (((((Ag.rf.w (by decide)).w (by decide)).w (by decide)).w (by decide)).w (by decide)) (((((Ag.rf.wa (by decide)).wa (by decide)).wa (by decide)).wa (by decide)).wa (by decide)), Rn_of hn (((((Ag.rf.w (by decide)).w (by decide)).w (by decide)).w (by decide)).w (by decide)) (((((Ag.rf.wa (by decide)).wa (by decide)).wa (by decide)).wa (by decide)).wa (by decide)), ?_, ?_, Rq_of hq (((((Ag.rf.wa (by decide)).wa (by decide)).wa (by decide)).wa (by decide)).wa (by decide)), Rv_of hv (((((Ag.rf.w (by decide)).w (by decide)).w (by decide)).w (by decide)).w (by decide)) (((((Ag.rf.wa (by decide)).wa (by decide)).wa (by decide)).wa (by decide)).wa (by decide)), Rw_of hw (((((Ag.rf.w (by decide)).w (by decide)).w (by decide)).w (by decide)).w (by decide)) (((((Ag.rf.wa (by decide)).wa (by decide)).wa (by decide)).wa (by decide)).wa (by decide)), Rl_of hl (((((Ag.rf.w (by decide)).w (by decide)).w (by decide)).w (by decide)).w (by decide)) (((((Ag.rf.wa (by decide)).wa (by decide)).wa (by decide)).wa (by decide)).wa (by decide)), Rk_of hk (((((Ag.rf.w (by decide)).w (by decide)).w (by decide)).w (by decide)).w (by decide)) (((((Ag.rf.wa (by decide)).wa (by decide)).wa (by decide)).wa (by decide)).wa (by decide)), Ri_of hi (((((Ag.rf.w (by decide)).w (by decide)).w (by decide)).w (by decide)).w (by decide)) (((((Ag.rf.wa (by decide)).wa (by decide)).wa (by decide)).wa (by decide)).wa (by decide)), Ro_of ho (((((Ag.rf.w (by decide)).w (by decide)).w (by decide)).w (by decide)).w (by decide)) (((((Ag.rf.wa (by decide)).wa (by decide)).wa (by decide)).wa (by decide)).wa (by decide)), Rp_of hp (((((Ag.rf.w (by decide)).w (by decide)).w (by decide)).w (by decide)).w (by decide)) (((((Ag.rf.wa (by decide)).wa (by decide)).wa (by decide)).wa (by decide)).wa (by decide)), Rs_of hs (((((Ag.rf.w (by decide)).w (by decide)).w (by decide)).w (by decide)).w (by decide)) (((((Ag.rf.wa (by decide)).wa (by decide)).wa (by decide)).wa (by decide)).wa (by decide)), ?_, hN⟩
  · intro d' hd'
    have h0 := ht d' hd'
    by_cases e : d' = d
    · subst e
      simp (disch := first | decide | assumption | omega) only [xu_s, xu_f, xu_a, xu_o, xu_k, fill_a, fill_in, fill_out]
      exact ⟨trivial, trivial, h0.2.2.1, h0.2.2.2.1, fun _ => ⟨trivial, trivial, trivial, hs1⟩⟩
    · have hne : 200 + d' ≠ 200 + d := by omega
      simp (disch := first | decide | assumption | omega) only [xu_s, xu_f, xu_a, xu_o, xu_k, fill_a, fill_in, fill_out]
      exact h0
  · intro d' hd' c' hc'
    have h0 := hc d' hd' c' hc'
    have hne : 20 * d' + 4 * c' ≠ 200 + d := by omega
    simp (disch := first | decide | assumption | omega) only [xu_s, xu_f, xu_a, xu_o, xu_k, fill_a, fill_in, fill_out]
    exact h0
  · intro j hj
    have h0 := hm j (by revert hj; simp (disch := first | decide | assumption | omega) only [xu_s, xu_f, xu_a, xu_o, xu_k, fill_a, fill_in, fill_out]; exact id)
    have hne : (mt 38 j 0).toNatClampNeg ≠ d := fun e => n11 hst (by rw [← e]; exact h0.2.2.1)
    simp (disch := first | decide | assumption | omega) only [xu_s, xu_f, xu_a, xu_o, xu_k, fill_a, fill_in, fill_out]
    exact h0
theorem eq_setPoint (h : RR n st mt) (hz : Rz mt) {a1 a2 a3 a4 : Int32} : Ok n (f_BN_setPoint st a1 a2 a3 a4) (f_MO_setPoint mt a1 a2 a3 a4) := by
  have h' := h.th (v := 0)
  unfold f_BN_setPoint f_MO_setPoint
  rw [h'.opn]
  by_cases e1 : f_MO_isAt (xu mt 0 0 0 0) a1 1 = 0
  · rw [if_pos e1, if_pos e1]
    exact Ok.no h hz
  · rw [if_neg e1, if_neg e1]
    obtain ⟨hd8, hst⟩ := at_in e1
    by_cases e4 : f_BN_isRange a2 a3 a4 = 0
    · rw [if_pos e4, if_pos (show f_MO_isRange a2 a3 a4 = 0 from e4)]
      exact Ok.no h hz
    · rw [if_neg e4, if_neg (show ¬ f_MO_isRange a2 a3 a4 = 0 from e4)]
      exact ⟨rfl, (setPoint_R h' (xin_lt hd8) hst (range_1 e4)).mono (by omega), Rz_of hz (((((((Ag.rf.w (by decide)).wa (by decide)).wa (by decide)).wa (by decide)).wa (by decide)).wa (by decide)))⟩
theorem seal_R (h : RR n st mt) (hz : Rz mt) (hd8 : d < 8) (hst : mt 2 d 0 = 1) : RR n (xu st 8 2 d 2) (xu mt 2 d 0 2) ∧ Rz (xu mt 2 d 0 2) := by
  obtain ⟨ha, hb, hd, hn, ht, hc, hq, hv, hw, hl, hk, hi, ho, hp, hs, hm, hN⟩ := h
  have hn2 : ¬ mt 2 d 0 = 0 := by rw [hst]; decide
  refine ⟨⟨Ra_of ha (Ag.rf.w (by decide)) (Ag.rf.wa (by decide)), Rb_of hb (Ag.rf.w (by decide)) (Ag.rf.wa (by decide)), ?_, Rn_of hn (Ag.rf.w (by decide)) (Ag.rf.wa (by decide)), Rt_of ht (Ag.rf.w (by decide)) (Ag.rf.wa (by decide)), Rc_of hc (Ag.rf.w (by decide)) (Ag.rf.wa (by decide)), ?_, Rv_of hv (Ag.rf.w (by decide)) (Ag.rf.wa (by decide)), Rw_of hw (Ag.rf.w (by decide)) (Ag.rf.wa (by decide)), Rl_of hl (Ag.rf.w (by decide)) (Ag.rf.wa (by decide)), Rk_of hk (Ag.rf.w (by decide)) (Ag.rf.wa (by decide)), Ri_of hi (Ag.rf.w (by decide)) (Ag.rf.wa (by decide)), Ro_of ho (Ag.rf.w (by decide)) (Ag.rf.wa (by decide)), Rp_of hp (Ag.rf.w (by decide)) (Ag.rf.wa (by decide)), Rs_of hs (Ag.rf.w (by decide)) (Ag.rf.wa (by decide)), ?_, hN⟩, ?_⟩
  · intro d' hd'
    have h0 := hd d' hd'
    by_cases e : d' = d
    · subst e
      simp (disch := first | decide | assumption | omega) only [xu_s, xu_f, xu_a, xu_o, xu_k, fill_a, fill_in, fill_out]
      obtain ⟨p1, p2, p3, p4, p5, p6, p7, p8, p9⟩ := h0
      exact ⟨trivial, p2, p3, p4, p5, p6, fun _ => p7 hn2, fun z => absurd z (by decide), fun _ => trivial⟩
    · simp (disch := first | decide | assumption | omega) only [xu_s, xu_f, xu_a, xu_o, xu_k, fill_a, fill_in, fill_out]
      exact h0
  · intro d' hd' c' hc' hno
    by_cases e : d' = d
    · subst e
      have h0 := hq d' hd' c' hc' (fun z => n11 hst z.1)
      simp (disch := first | decide | assumption | omega) only [xu_s, xu_f, xu_a, xu_o, xu_k, fill_a, fill_in, fill_out]
      exact h0
    · have h0 := hq d' hd' c' hc'
      revert hno
      simp (disch := first | decide | assumption | omega) only [xu_s, xu_f, xu_a, xu_o, xu_k, fill_a, fill_in, fill_out]
      exact h0
  · intro j hj
    have h0 := hm j (by revert hj; simp (disch := first | decide | assumption | omega) only [xu_s, xu_f, xu_a, xu_o, xu_k, fill_a, fill_in, fill_out]; exact id)
    have hne : (mt 38 j 0).toNatClampNeg ≠ d := fun e => n11 hst (by rw [← e]; exact h0.2.2.1)
    simp (disch := first | decide | assumption | omega) only [xu_s, xu_f, xu_a, xu_o, xu_k, fill_a, fill_in, fill_out]
    exact h0
  · intro d' hd' c' hc'
    have h0 := hz d' hd' c' hc'
    by_cases e : d' = d
    · subst e
      have h1 := hq d' hd' c' hc' (fun z => n11 hst z.1)
      simp (disch := first | decide | assumption | omega) only [xu_s, xu_f, xu_a, xu_o, xu_k, fill_a, fill_in, fill_out]
      intro _ _
      exact ⟨fun _ z => absurd h1.1 z.2.1.1, fun z => absurd h1.2.1 z⟩
    · simp (disch := first | decide | assumption | omega) only [xu_s, xu_f, xu_a, xu_o, xu_k, fill_a, fill_in, fill_out]
      exact h0
theorem eq_seal (h : RR n st mt) (hz : Rz mt) {a1 : Int32} : Ok n (f_BN_seal st a1) (f_MO_seal mt a1) := by
  have h' := h.th (v := 0)
  unfold f_BN_seal f_MO_seal
  rw [h'.opn]
  by_cases e1 : f_MO_isAt (xu mt 0 0 0 0) a1 1 = 0
  · rw [if_pos e1, if_pos e1]
    exact Ok.no h hz
  · rw [if_neg e1, if_neg e1]
    obtain ⟨hd8, hst⟩ := at_in e1
    rw [(h.2.2.1 _ (xin_lt hd8)).2.2.2.1]
    by_cases e4 : mt 5 a1.toNatClampNeg 0 = 0
    · rw [if_pos e4, if_pos e4]
      exact Ok.no h hz
    · rw [if_neg e4, if_neg e4]
      have := seal_R h' (hz.th (v := 0)) (xin_lt hd8) hst
      exact ⟨rfl, this.1.mono (by omega), this.2⟩
end DSC
