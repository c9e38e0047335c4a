section TIE
variable {n : Nat} {st mt : XS} {d : Nat}
theorem untie_R (h : RR n st mt) (hd8 : d < 8) : RR n (xu st 8 6 d 0) (fill (xu mt 6 d 0 0) 24 d 0) := by
  obtain ⟨ha, hb, hd, hn, ht, hc, hq, hv, hw, hl, hk, hi, ho, hp, hs, hm, hN⟩ := h
  refine ⟨Ra_of ha (Ag.rf.w (by decide)) ((Ag.rf.wa (by decide)).wf (by decide)), Rb_of hb (Ag.rf.w (by decide)) ((Ag.rf.wa (by decide)).wf (by decide)), ?_, Rn_of hn (Ag.rf.w (by decide)) ((Ag.rf.wa (by decide)).wf (by decide)), Rt_of ht (Ag.rf.w (by decide)) ((Ag.rf.wa (by decide)).wf (by decide)), Rc_of hc (Ag.rf.w (by decide)) ((Ag.rf.wa (by decide)).wf (by decide)), Rq_of hq ((Ag.rf.wa (by decide)).wf (by decide)), Rv_of hv (Ag.rf.w (by decide)) ((Ag.rf.wa (by decide)).wf (by decide)), ?_, Rl_of hl (Ag.rf.w (by decide)) ((Ag.rf.wa (by decide)).wf (by decide)), Rk_of hk (Ag.rf.w (by decide)) ((Ag.rf.wa (by decide)).wf (by decide)), Ri_of hi (Ag.rf.w (by decide)) ((Ag.rf.wa (by decide)).wf (by decide)), Ro_of ho (Ag.rf.w (by decide)) ((Ag.rf.wa (by decide)).wf (by decide)), Rp_of hp (Ag.rf.w (by decide)) ((Ag.rf.wa (by decide)).wf (by decide)), Rs_of hs (Ag.rf.w (by decide)) ((Ag.rf.wa (by decide)).wf (by decide)), Rm_of hm ((Ag.rf.wa (by decide)).wf (by decide)), hN⟩
  · intro d' hd'
    have h0 := hd d' hd'
    by_cases e : d' = d
    · subst e
      simp (disch := first | decide | assumption | omega) only [xu_s, xu_f, xu_a, xu_o, xu_k, fill_a, fill_in, fill_out]
      obtain ⟨p1, p2, p3, p4, p5, p6, p7, p8, p9⟩ := h0
      exact ⟨p1, p2, p3, p4, trivial, p6, p7, p8, fun z => absurd trivial z⟩
    · simp (disch := first | decide | assumption | omega) only [xu_s, xu_f, xu_a, xu_o, xu_k, fill_a, fill_in, fill_out]
      exact h0
  · intro d' hd' c hc4
    have h0 := hw d' hd' c hc4
    by_cases e : d' = d
    · subst e
      simp (disch := first | decide | assumption | omega) only [xu_s, xu_f, xu_a, xu_o, xu_k, fill_a, fill_in, fill_out]
      exact ⟨fun _ => rfl, fun z => absurd trivial z⟩
    · simp (disch := first | decide | assumption | omega) only [xu_s, xu_f, xu_a, xu_o, xu_k, fill_a, fill_in, fill_out]
      exact h0
theorem untie_z (hz : Rz mt) : Rz (fill (xu mt 6 d 0 0) 24 d 0) := Rz_of hz ((Ag.rf.wa (by decide)).wf (by decide))
theorem bed_R (h : RR n st mt) (hd8 : d < 8) (hst : mt 2 d 0 = 2) {b : Int32} (hb4 : vp_in b 4) : RR n (xu st 8 3 d b) (xu mt 3 d 0 b) := by
  obtain ⟨ha, hb, hd, hn, ht, hc, hq, hv, hw, hl, hk, hi, ho, hp, hs, hm, hN⟩ := h
  refine ⟨Ra_of ha (Ag.rf.w (by decide)) (Ag.rf.wa (by decide)), Rb_of hb (Ag.rf.w (by decide)) (Ag.rf.wa (by decide)), ?_, Rn_of hn (Ag.rf.w (by decide)) (Ag.rf.wa (by decide)), Rt_of ht (Ag.rf.w (by decide)) (Ag.rf.wa (by decide)), Rc_of hc (Ag.rf.w (by decide)) (Ag.rf.wa (by decide)), Rq_of hq (Ag.rf.wa (by decide)), Rv_of hv (Ag.rf.w (by decide)) (Ag.rf.wa (by decide)), Rw_of hw (Ag.rf.w (by decide)) (Ag.rf.wa (by decide)), Rl_of hl (Ag.rf.w (by decide)) (Ag.rf.wa (by decide)), Rk_of hk (Ag.rf.w (by decide)) (Ag.rf.wa (by decide)), Ri_of hi (Ag.rf.w (by decide)) (Ag.rf.wa (by decide)), Ro_of ho (Ag.rf.w (by decide)) (Ag.rf.wa (by decide)), Rp_of hp (Ag.rf.w (by decide)) (Ag.rf.wa (by decide)), Rs_of hs (Ag.rf.w (by decide)) (Ag.rf.wa (by decide)), Rm_of hm (Ag.rf.wa (by decide)), hN⟩
  intro d' hd'
  have h0 := hd d' hd'
  by_cases e : d' = d
  · subst e
    simp (disch := first | decide | assumption | omega) only [xu_s, xu_f, xu_a, xu_o, xu_k, fill_a, fill_in, fill_out]
    obtain ⟨p1, p2, p3, p4, p5, p6, p7, p8, p9⟩ := h0
    exact ⟨p1, trivial, p3, p4, p5, p6, fun _ => hb4, fun z => absurd (hst.symm.trans z) (by decide), p9⟩
  · simp (disch := first | decide | assumption | omega) only [xu_s, xu_f, xu_a, xu_o, xu_k, fill_a, fill_in, fill_out]
    exact h0
theorem eq_move (h : RR n st mt) (hz : Rz mt) {a1 a2 : Int32} : Ok n (f_BN_move st a1 a2) (f_MO_move mt a1 a2) := by
  have h' := h.th (v := 0)
  unfold f_BN_move f_MO_move
  rw [h'.sealed]
  by_cases e1 : f_MO_isAt (xu mt 0 0 0 0) a1 2 = 0
  · rw [if_pos e1, if_pos e1]
    exact Ok.no h hz
  · rw [if_neg e1, if_neg e1]
    obtain ⟨hd8, hst⟩ := at_in e1
    by_cases e4 : f_BN_isBed a2 = 0
    · rw [if_pos e4, if_pos (show f_MO_isBed a2 = 0 from e4)]
      exact Ok.no h hz
    · rw [if_neg e4, if_neg (show ¬ f_MO_isBed a2 = 0 from e4), untie_eq hd8]
      have h2 := untie_R (bed_R h' (xin_lt hd8) hst (vd_isBed e4)) (xin_lt hd8)
      have hz2 : Rz (fill (xu (xu (xu mt 0 0 0 0) 3 a1.toNatClampNeg 0 a2) 6 a1.toNatClampNeg 0 0) 24 a1.toNatClampNeg 0) := untie_z (Rz_of hz ((Ag.rf.w (by decide)).wa (by decide)))
      rw [settle_id h2.ch hz2]
      exact ⟨rfl, h2.mono (by omega), hz2⟩
theorem pat_R (h : RR n st mt) {b : Nat} (hb4 : b < 4) {p : Int32} : RR n (xu st 2 b 0 p) (xu mt 1 b 0 p) := by
  obtain ⟨ha, hb, hd, hn, ht, hc, hq, hv, hw, hl, hk, hi, ho, hp, hs, hm, hN⟩ := h
  refine ⟨Ra_of ha (Ag.rf.wa (by decide)) (Ag.rf.wa (by decide)), ?_, Rd_of hd (Ag.rf.wa (by decide)) (Ag.rf.wa (by decide)), Rn_of hn (Ag.rf.wa (by decide)) (Ag.rf.wa (by decide)), Rt_of ht (Ag.rf.wa (by decide)) (Ag.rf.wa (by decide)), Rc_of hc (Ag.rf.wa (by decide)) (Ag.rf.wa (by decide)), Rq_of hq (Ag.rf.wa (by decide)), Rv_of hv (Ag.rf.wa (by decide)) (Ag.rf.wa (by decide)), Rw_of hw (Ag.rf.wa (by decide)) (Ag.rf.wa (by decide)), Rl_of hl (Ag.rf.wa (by decide)) (Ag.rf.wa (by decide)), Rk_of hk (Ag.rf.wa (by decide)) (Ag.rf.wa (by decide)), Ri_of hi (Ag.rf.wa (by decide)) (Ag.rf.wa (by decide)), Ro_of ho (Ag.rf.wa (by decide)) (Ag.rf.wa (by decide)), Rp_of hp (Ag.rf.wa (by decide)) (Ag.rf.wa (by decide)), Rs_of hs (Ag.rf.wa (by decide)) (Ag.rf.wa (by decide)), Rm_of hm (Ag.rf.wa (by decide)), hN⟩
  intro j hj
  have h0 := hb j hj
  by_cases e : j = b
  · subst e
    simp (disch := first | decide | assumption | omega) only [xu_s, xu_f, xu_a, xu_o, xu_k, fill_a, fill_in, fill_out]
  · simp (disch := first | decide | assumption | omega) only [xu_s, xu_f, xu_a, xu_o, xu_k, fill_a, fill_in, fill_out]
    exact h0
theorem pat_loop {a1 a2 : Int32} : ∀ (m : Nat) (st mt : XS) (x : Int32), RR n st mt → Rz mt → lpi 8 m x → RR n (g_BN_patient_32 m st a1 a2 x) (g_MO_patient_37 m mt a1 a2 x) ∧ Rz (g_MO_patient_37 m mt a1 a2 x) := by
  intro m
  induction m with
  | zero => intro st mt x h hz hx; exact absurd hx lpi_no
  | succ m ih =>
    intro st mt x h hz hx
    rw [g_BN_patient_32, g_MO_patient_37]
    by_cases hcc : 8 ≤ x
    · rw [if_pos hcc, if_pos hcc]
      exact ⟨h, hz⟩
    · rw [if_neg hcc, if_neg hcc]
      have hlt := lpi_c hx hcc i32_8
      have hx1 : vp_in x 8 := lpi_ix hx hlt (by decide)
      have hnx := lpi_nx hx hlt (by decide)
      rw [(h.2.2.1 _ (xin_lt hx1)).2.1]
      by_cases e : mt 3 x.toNatClampNeg 0 = a1
      · rw [if_pos e, if_pos e, untie_eq hx1]
        exact ih _ _ _ (untie_R h (xin_lt hx1)) (untie_z hz) hnx
      · rw [if_neg e, if_neg e]
        exact ih _ _ _ h hz hnx
theorem eq_patient (h : RR n st mt) (hz : Rz mt) {a1 a2 : Int32} : Ok n (f_BN_patient st a1 a2) (f_MO_patient mt a1 a2) := by
  have h' := h.th (v := 0)
  unfold f_BN_patient f_MO_patient
  by_cases e1 : f_BN_isBed a1 = 0
  · rw [if_pos e1, if_pos (show f_MO_isBed a1 = 0 from e1)]
    exact Ok.no h hz
  · rw [if_neg e1, if_neg (show ¬ f_MO_isBed a1 = 0 from e1)]
    have hb4 := xin_lt (vd_isBed e1)
    by_cases e2 : a2 < 0
    · rw [if_pos e2, if_pos e2]
      exact Ok.no h hz
    · rw [if_neg e2, if_neg e2, h.2.1 _ hb4]
      by_cases e3 : mt 1 a1.toNatClampNeg 0 = a2
      · rw [if_pos e3, if_pos e3]
        exact Ok.no h hz
      · rw [if_neg e3, if_neg e3]
        obtain ⟨h2, hz2⟩ := pat_loop (a1 := a1) (a2 := a2) 9 _ _ 0 (pat_R h' hb4 (p := a2)) (Rz_of hz ((Ag.rf.w (by decide)).wa (by decide))) lpi_st
        rw [settle_id h2.ch hz2]
        exact ⟨rfl, h2.mono (by omega), hz2⟩
theorem tie_loop {a1 : Int32} : ∀ (m : Nat) (st : XS) (x : Int32), (st 8 5 d).toInt ≤ (4 : Nat) → lpi 4 m x →
    (∀ c : Nat, x.toNatClampNeg ≤ c → (c : Int) < (st 8 5 d).toInt → g_DE_tie_7 m st d a1 x 12 7 (20 * d + 4 * c) = 0) ∧ (∀ i, ((∀ c : Nat, c < 4 → i ≠ 20 * d + 4 * c) ∨ (∀ c : Nat, c < 4 → i = 20 * d + 4 * c → c < x.toNatClampNeg)) → g_DE_tie_7 m st d a1 x 12 7 i = st 12 7 i) := by
  intro m
  induction m with
  | zero => intro st x hc hx; exact absurd hx lpi_no
  | succ m ih =>
    intro st x hc hx
    have ex := i32_nat hx.1
    rw [g_DE_tie_7]
    by_cases hcc : st 8 5 d ≤ x
    · have hle := i32_le.mp hcc
      simp only [if_pos hcc]
      exact ⟨fun c h1 h2 => absurd h2 (by omega), fun _ _ => trivial⟩
    · have hlt := i32_nle hcc
      have hinc := inc_n hx.1 (by omega)
      have e8 : xu st 12 7 (20 * d + 4 * x.toNatClampNeg) 0 8 5 d = st 8 5 d := xu_f (by decide)
      simp only [if_neg hcc]
      obtain ⟨i1, i2⟩ := ih (xu st 12 7 (20 * d + 4 * x.toNatClampNeg) 0) (x + 1) (by rw [e8]; exact hc) (lpi_nx hx (by omega) (by decide))
      rw [e8, hinc] at i1
      rw [hinc] at i2
      refine ⟨fun c h1 h2 => ?_, fun i hi => ?_⟩
      · by_cases e : c = x.toNatClampNeg
        · subst e
          rw [i2 _ (Or.inr (fun c hc2 hc3 => by omega)), xu_s]
        · exact i1 c (by omega) h2
      · have hne : i ≠ 20 * d + 4 * x.toNatClampNeg := fun z => by
          rcases hi with hi | hi
          · exact hi _ (by omega) z
          · have := hi _ (by omega) z
            omega
        rw [i2 i (hi.imp id (fun z c h1 h2 => by have := z c h1 h2; omega)), xu_o hne]
theorem tie_R (h : RR n st mt) (hd8 : d < 8) (hst : mt 2 d 0 = 2) (h6 : mt 6 d 0 = 0) {p : Int32} (hp0 : ¬ p = 0) : RR n (f_DE_tie st d p) (xu mt 6 d 0 p) := by
  obtain ⟨ha, hb, hd, hn, ht, hc, hq, hv, hw, hl, hk, hi, ho, hp, hs, hm, hN⟩ := h
  have hch : (xu st 8 6 d p 8 5 d) = mt 5 d 0 := (xu_f (by decide)).trans (hd d hd8).2.2.2.1
  obtain ⟨t1, t2⟩ := tie_loop (d := d) (a1 := p) 5 (xu st 8 6 d p) 0 (by rw [hch]; exact (hd d hd8).2.2.2.2.2.1.2) lpi_st
  rw [hch] at t1
  have hz0 : (0 : Int32).toNatClampNeg = 0 := by decide
  have e86 : ∀ i, f_DE_tie st d p 8 6 i = xu st 8 6 d p 8 6 i := fun i => by unfold f_DE_tie; exact fr_DE_tie_7 (by decide) (by decide) _ _ _ _ _
  refine ⟨Ra_of ha (Ag.of fr_DE_tie (by decide)) (Ag.rf.wa (by decide)), Rb_of hb (Ag.of fr_DE_tie (by decide)) (Ag.rf.wa (by decide)), ?_, Rn_of hn (Ag.of fr_DE_tie (by decide)) (Ag.rf.wa (by decide)), Rt_of ht (Ag.of fr_DE_tie (by decide)) (Ag.rf.wa (by decide)), Rc_of hc (Ag.of fr_DE_tie (by decide)) (Ag.rf.wa (by decide)), Rq_of hq (Ag.rf.wa (by decide)), Rv_of hv (Ag.of fr_DE_tie (by decide)) (Ag.rf.wa (by decide)), ?_, Rl_of hl (Ag.of fr_DE_tie (by decide)) (Ag.rf.wa (by decide)), Rk_of hk (Ag.of fr_DE_tie (by decide)) (Ag.rf.wa (by decide)), Ri_of hi (Ag.of fr_DE_tie (by decide)) (Ag.rf.wa (by decide)), Ro_of ho (Ag.of fr_DE_tie (by decide)) (Ag.rf.wa (by decide)), Rp_of hp (Ag.of fr_DE_tie (by decide)) (Ag.rf.wa (by decide)), Rs_of hs (Ag.of fr_DE_tie (by decide)) (Ag.rf.wa (by decide)), Rm_of hm (Ag.rf.wa (by decide)), hN⟩
  · intro d' hd'
    have h0 := hd d' hd'
    have f2 : f_DE_tie st d p 8 2 d' = st 8 2 d' := fr_DE_tie (by decide) (by decide)
    have f3 : f_DE_tie st d p 8 3 d' = st 8 3 d' := fr_DE_tie (by decide) (by decide)
    have f4 : f_DE_tie st d p 8 4 d' = st 8 4 d' := fr_DE_tie (by decide) (by decide)
    have f5 : f_DE_tie st d p 8 5 d' = st 8 5 d' := fr_DE_tie (by decide) (by decide)
    rw [e86, f2, f3, f4, f5]
    by_cases e : d' = d
    · subst e
      simp (disch := first | decide | assumption | omega) only [xu_s, xu_f, xu_a, xu_o, xu_k, fill_a, fill_in, fill_out]
      obtain ⟨p1, p2, p3, p4, p5, p6, p7, p8, p9⟩ := h0
      exact ⟨p1, p2, p3, p4, trivial, p6, p7, p8, fun _ => hst⟩
    · simp (disch := first | decide | assumption | omega) only [xu_s, xu_f, xu_a, xu_o, xu_k, fill_a, fill_in, fill_out]
      exact h0
  · intro d' hd' c hc4
    have h0 := hw d' hd' c hc4
    have f8 : ∀ i, f_DE_tie st d p 12 8 i = st 12 8 i := fun i => fr_DE_tie (by decide) (by decide)
    rw [f8]
    by_cases e : d' = d
    · subst e
      have h24 := h0.1 h6
      simp (disch := first | decide | assumption | omega) only [xu_s, xu_f, xu_a, xu_o, xu_k, fill_a, fill_in, fill_out]
      refine ⟨fun z => absurd z hp0, fun _ hc9 => ⟨?_, fun z => absurd h24 z⟩⟩
      rw [show f_DE_tie st d' p 12 7 (20 * d' + 4 * c) = 0 from t1 c (by rw [hz0]; omega) hc9, h24]
      rfl
    · have e7 : f_DE_tie st d p 12 7 (20 * d' + 4 * c) = st 12 7 (20 * d' + 4 * c) := (t2 _ (Or.inl (fun c2 hc2 => by omega))).trans (xu_f (by decide))
      rw [e7]
      simp (disch := first | decide | assumption | omega) only [xu_s, xu_f, xu_a, xu_o, xu_k, fill_a, fill_in, fill_out]
      exact h0
theorem eq_confirm (h : RR n st mt) (hz : Rz mt) {a1 : Int32} : Ok n (f_BN_confirm st a1) (f_MO_confirm mt a1) := by
  have h' := h.th (v := 0)
  unfold f_BN_confirm f_MO_confirm
  rw [h'.sealed]
  by_cases e1 : f_MO_isAt (xu mt 0 0 0 0) a1 2 = 0
  · rw [if_pos e1, if_pos e1]
    exact Ok.no h hz
  · rw [if_neg e1, if_neg e1]
    obtain ⟨hd8, hst⟩ := at_in e1
    have hst2 : mt 2 a1.toNatClampNeg 0 = 2 := (xu_a (by decide)).symm.trans hst
    have hd := h.2.2.1 _ (xin_lt hd8)
    have hb4 : vp_in (mt 3 a1.toNatClampNeg 0) 4 := hd.2.2.2.2.2.2.1 (by rw [hst2]; decide)
    have hbe : ¬ f_BN_isBed (mt 3 a1.toNatClampNeg 0) = 0 := by
      obtain ⟨h1, h2⟩ := vp_in_iff.mp hb4
      unfold f_BN_isBed
      rw [if_neg (now_nn h1), if_neg (fun z => by have := i32_le.mp z; rw [show (4 : Int32).toInt = 4 from by decide] at this; omega)]
      decide
    rw [hd.2.1, if_neg hbe, h.2.1 _ (xin_lt hb4), hd.2.2.2.2.1]
    by_cases e2 : mt 6 a1.toNatClampNeg 0 = 0
    · rw [if_pos e2, if_pos e2]
      by_cases e3 : mt 1 (mt 3 a1.toNatClampNeg 0).toNatClampNeg 0 = 0
      · rw [if_pos e3, if_pos e3]
        exact Ok.no h hz
      · rw [if_neg e3, if_neg e3]
        have h2 := tie_R h' (xin_lt hd8) hst (by simp (disch := first | decide | assumption | omega) only [xu_s, xu_f, xu_a, xu_o, xu_k, fill_a, fill_in, fill_out]; exact e2) e3
        have hz2 : Rz (xu (xu mt 0 0 0 0) 6 a1.toNatClampNeg 0 (mt 1 (mt 3 a1.toNatClampNeg 0).toNatClampNeg 0)) := Rz_of hz ((Ag.rf.w (by decide)).wa (by decide))
        rw [settle_id h2.ch hz2]
        exact ⟨rfl, h2.mono (by omega), hz2⟩
    · rw [if_neg e2, if_neg e2]
      split
      · exact Ok.no h hz
      · exact Ok.no h hz
end TIE
