section CRY
variable {n : Nat} {st mt S M : XS} {nb kd dv pt lf v t w : Int32}
theorem xu_id {a k i : Nat} : xu mt a k i (mt a k i) = mt := by
  funext a' k' i'
  unfold xu
  by_cases e : a' = a ∧ k' = k ∧ i' = i
  · rw [if_pos e, e.1, e.2.1, e.2.2]
  · rw [if_neg e]
theorem dc_iff {d c : Nat} (hd : d < 8) (hc : c < 4) (hd8 : vp_in dv 8) (hc4 : vp_in pt 4) : nI (4 * d + c) = 4 * dv + pt ↔ dv = nI d ∧ pt = nI c := by
  have e1 := i32_4c hd8 hc4
  obtain ⟨a1, a2⟩ := vp_in_iff.mp hd8
  obtain ⟨b1, b2⟩ := vp_in_iff.mp hc4
  have n1 := nI_toInt (n := 4 * d + c) (by omega)
  have n2 := nI_toInt (n := d) (by omega)
  have n3 := nI_toInt (n := c) (by omega)
  constructor
  · intro e
    rw [← e, n1] at e1
    exact ⟨i32_ext (by omega), i32_ext (by omega)⟩
  · rintro ⟨x1, x2⟩
    refine i32_ext ?_
    rw [n1, e1, x1, x2, n2, n3]
    omega
/-- one place of the station hears a value, in the reference -/
def hM (M : XS) (x : Nat) (nb k lf v t w : Int32) : XS := if M 44 x 0 = k ∧ M 45 x 0 = lf ∧ M 46 x 0 = w ∧ ¬ nb ≤ M 47 x 0 then xu (xu (xu (xu M 47 x 0 nb) 48 x 0 v) 49 x 0 t) 50 x 0 (M 0 1 0) else M
theorem gM_hear {m : Nat} {k x : Int32} (hcc : ¬ M 0 48 0 ≤ x) : g_MO_shows_3 (m + 1) M nb k lf v t w x = g_MO_shows_3 m (hM M x.toNatClampNeg nb k lf v t w) nb k lf v t w (x + 1) := by
  rw [g_MO_shows_3, if_neg hcc]
  unfold hM
  by_cases e1 : M 44 x.toNatClampNeg 0 = k
  · rw [if_pos e1]
    by_cases e2 : M 45 x.toNatClampNeg 0 = lf
    · rw [if_pos e2]
      by_cases e3 : M 46 x.toNatClampNeg 0 = w
      · rw [if_pos e3]
        by_cases e4 : nb ≤ M 47 x.toNatClampNeg 0
        · rw [if_pos e4, if_neg (fun z => z.2.2.2 e4)]
        · rw [if_neg e4, if_pos ⟨e1, e2, e3, e4⟩]
      · rw [if_neg e3, if_neg (fun z => e3 z.2.2.1)]
    · rw [if_neg e2, if_neg (fun z => e2 z.2.1)]
  · rw [if_neg e1, if_neg (fun z => e1 z.1)]
theorem hear_R (h : RR n S M) (i0 : S 7 0 65 = nb) (i2 : S 7 2 65 = dv) (i3 : S 7 3 65 = pt) (i4 : S 7 4 65 = lf) (i5 : S 7 5 65 = v) (i6 : S 7 6 65 = t) (i7 : S 7 7 65 = w) (hd8 : vp_in dv 8) (hc4 : vp_in pt 4) (hnb : 0 ≤ nb.toInt) {x : Nat} (hx : (x : Int) < (M 0 48 0).toInt) : RR n (f_DI_hear S x 65 (S 0 8 0)) (hM M x nb (4 * dv + pt) lf v t w) := by
  have h0 := h
  obtain ⟨ha, hb, hd, hn, ht, hc, hq, hv, hw, hl, hk, hi, ho, hp, hs, hm, hN⟩ := h
  have x16 : x < 16 := by have := hi.2.1.2; omega
  obtain ⟨⟨d, c, d8, c4, g0, g1, g2⟩, g3, g4, g5, g6⟩ := (hi.2.2 x x16).1 hx
  have hdc := dc_iff d8 c4 hd8 hc4
  unfold f_DI_hear hM
  rw [i0, i2, i3, i4, i5, i6, i7, g0, g1, g2, g3, g4, g5, ha.1]
  by_cases e1 : dv = nI d
  · rw [if_pos e1]
    by_cases e2 : pt = nI c
    · rw [if_pos e2]
      by_cases e3 : lf = M 45 x 0
      · rw [if_pos e3]
        by_cases e4 : w = M 46 x 0
        · rw [if_pos e4]
          by_cases e5 : nb ≤ M 47 x 0
          · rw [if_pos e5, if_neg (fun z => z.2.2.2 e5)]
            exact h0
          · rw [if_neg e5, if_pos ⟨hdc.mpr ⟨e1, e2⟩, e3.symm, e4.symm, e5⟩]
            refine ⟨Ra_of ha ((((Ag.rf.w (by decide)).w (by decide)).w (by decide)).w (by decide)) ((((Ag.rf.wa (by decide)).wa (by decide)).wa (by decide)).wa (by decide)), Rb_of hb ((((Ag.rf.w (by decide)).w (by decide)).w (by decide)).w (by decide)) ((((Ag.rf.wa (by decide)).wa (by decide)).wa (by decide)).wa (by decide)), Rd_of hd ((((Ag.rf.w (by decide)).w (by decide)).w (by decide)).w (by decide)) ((((Ag.rf.wa (by decide)).wa (by decide)).wa (by decide)).wa (by decide)), Rn_of hn ((((Ag.rf.w (by decide)).w (by decide)).w (by decide)).w (by decide)) ((((Ag.rf.wa (by decide)).wa (by decide)).wa (by decide)).wa (by decide)), Rt_of ht ((((Ag.rf.w (by decide)).w (by decide)).w (by decide)).w (by decide)) ((((Ag.rf.wa (by decide)).wa (by decide)).wa (by decide)).wa (by decide)), Rc_of hc ((((Ag.rf.w (by decide)).w (by decide)).w (by decide)).w (by decide)) ((((Ag.rf.wa (by decide)).wa (by decide)).wa (by decide)).wa (by decide)), Rq_of hq ((((Ag.rf.wa (by decide)).wa (by decide)).wa (by decide)).wa (by decide)), Rv_of hv ((((Ag.rf.w (by decide)).w (by decide)).w (by decide)).w (by decide)) ((((Ag.rf.wa (by decide)).wa (by decide)).wa (by decide)).wa (by decide)), Rw_of hw ((((Ag.rf.w (by decide)).w (by decide)).w (by decide)).w (by decide)) ((((Ag.rf.wa (by decide)).wa (by decide)).wa (by decide)).wa (by decide)), Rl_of hl ((((Ag.rf.w (by decide)).w (by decide)).w (by decide)).w (by decide)) ((((Ag.rf.wa (by decide)).wa (by decide)).wa (by decide)).wa (by decide)), Rk_of hk ((((Ag.rf.w (by decide)).w (by decide)).w (by decide)).w (by decide)) ((((Ag.rf.wa (by decide)).wa (by decide)).wa (by decide)).wa (by decide)), ?_, Ro_of ho ((((Ag.rf.w (by decide)).w (by decide)).w (by decide)).w (by decide)) ((((Ag.rf.wa (by decide)).wa (by decide)).wa (by decide)).wa (by decide)), Rp_of hp ((((Ag.rf.w (by decide)).w (by decide)).w (by decide)).w (by decide)) ((((Ag.rf.wa (by decide)).wa (by decide)).wa (by decide)).wa (by decide)), Rs_of hs ((((Ag.rf.w (by decide)).w (by decide)).w (by decide)).w (by decide)) ((((Ag.rf.wa (by decide)).wa (by decide)).wa (by decide)).wa (by decide)), Rm_of hm ((((Ag.rf.wa (by decide)).wa (by decide)).wa (by decide)).wa (by decide)), hN⟩
            obtain ⟨y1, y2, y3⟩ := hi
            unfold Ri
            simp (disch := first | decide | assumption | omega) only [xu_s, xu_f, xu_a, xu_o, xu_k, fill_a, fill_in, fill_out]
            refine ⟨y1, y2, fun j hj => ?_⟩
            by_cases e : j = x
            · subst e
              simp (disch := first | decide | assumption | omega) only [xu_s, xu_f, xu_a, xu_o, xu_k, fill_a, fill_in, fill_out]
              exact ⟨fun _ => ⟨⟨d, c, d8, c4, g0, g1, g2⟩, g3, g4, trivial, Or.inr ⟨hnb, trivial, trivial, trivial⟩⟩, fun z => absurd hx z⟩
            · simp (disch := first | decide | assumption | omega) only [xu_s, xu_f, xu_a, xu_o, xu_k, fill_a, fill_in, fill_out]
              exact y3 j hj
        · rw [if_neg e4, if_neg (fun z => e4 z.2.2.1.symm)]
          exact h0
      · rw [if_neg e3, if_neg (fun z => e3 z.2.1.symm)]
        exact h0
    · rw [if_neg e2, if_neg (fun z => e2 (hdc.mp z.1).2)]
      exact h0
  · rw [if_neg e1, if_neg (fun z => e1 (hdc.mp z.1).1)]
    exact h0
theorem hM_48 {x : Nat} {k : Int32} : hM M x nb k lf v t w 0 48 0 = M 0 48 0 := by
  unfold hM
  split
  · simp (disch := first | decide | assumption | omega) only [xu_s, xu_f, xu_a, xu_o, xu_k, fill_a, fill_in, fill_out]
  · rfl
theorem shows_R {d : Nat} (hd8 : vp_in dv 8) (hc4 : vp_in pt 4) (hnb : 0 ≤ nb.toInt) : ∀ (m : Nat) (S M : XS) (x : Int32), RR n S M → S 7 0 65 = nb → S 7 2 65 = dv → S 7 3 65 = pt → S 7 4 65 = lf → S 7 5 65 = v → S 7 6 65 = t → S 7 7 65 = w → lpi 16 m x → RR n (g_BN_deliverWithinLife_38 m S d x) (g_MO_shows_3 m M nb (4 * dv + pt) lf v t w x) := by
  intro m
  induction m with
  | zero => intro S M x h _ _ _ _ _ _ _ hx; exact absurd hx lpi_no
  | succ m ih =>
    intro S M x h i0 i2 i3 i4 i5 i6 i7 hx
    have ex := i32_nat hx.1
    have hi := h.2.2.2.2.2.2.2.2.2.2.2.1
    rw [g_BN_deliverWithinLife_38, hi.1]
    by_cases hcc : M 0 48 0 ≤ x
    · rw [if_pos hcc, g_MO_shows_3, if_pos hcc]
      exact h
    · have hlt := i32_nle hcc
      rw [if_neg hcc, gM_hear hcc]
      have h2 := hear_R h i0 i2 i3 i4 i5 i6 i7 hd8 hc4 hnb (x := x.toNatClampNeg) (by omega)
      have f7 : ∀ k i, f_DI_hear S x.toNatClampNeg 65 (S 0 8 0) 7 k i = S 7 k i := fun k i => fr_DI_hear (by simp) (by decide)
      exact ih _ _ _ h2 (by rw [f7]; exact i0) (by rw [f7]; exact i2) (by rw [f7]; exact i3) (by rw [f7]; exact i4) (by rw [f7]; exact i5) (by rw [f7]; exact i6) (by rw [f7]; exact i7) (lpi_nx hx (by have := hi.2.1.2; omega) (by decide))
theorem learn_R (h : RR n S M) {d c : Nat} (hd8 : d < 8) (hc4 : c < 4) (hst : M 2 d 0 = 2) (hch : (c : Int) < (M 5 d 0).toInt) (hnb : 0 ≤ nb.toInt) {b b' : Int32} (hb1 : (b = 1 ∧ b' = 2) ∨ (b = 0 ∧ b' = 1)) : RR n (f_KN_learn S (20 * d + 4 * c) nb b) (xu (xu M 34 (4 * d + c) 0 nb) 33 (4 * d + c) 0 b') := by
  unfold f_KN_learn
  obtain ⟨ha, hb, hd, hn, ht, hc, hq, hv, hw, hl, hk, hi, ho, hp, hs, hm, hN⟩ := h
  refine ⟨Ra_of ha (((Ag.rf.w (by decide)).w (by decide)).w (by decide)) ((Ag.rf.wa (by decide)).wa (by decide)), Rb_of hb (((Ag.rf.w (by decide)).w (by decide)).w (by decide)) ((Ag.rf.wa (by decide)).wa (by decide)), Rd_of hd (((Ag.rf.w (by decide)).w (by decide)).w (by decide)) ((Ag.rf.wa (by decide)).wa (by decide)), Rn_of hn (((Ag.rf.w (by decide)).w (by decide)).w (by decide)) ((Ag.rf.wa (by decide)).wa (by decide)), Rt_of ht (((Ag.rf.w (by decide)).w (by decide)).w (by decide)) ((Ag.rf.wa (by decide)).wa (by decide)), Rc_of hc (((Ag.rf.w (by decide)).w (by decide)).w (by decide)) ((Ag.rf.wa (by decide)).wa (by decide)), ?_, Rv_of hv (((Ag.rf.w (by decide)).w (by decide)).w (by decide)) ((Ag.rf.wa (by decide)).wa (by decide)), Rw_of hw (((Ag.rf.w (by decide)).w (by decide)).w (by decide)) ((Ag.rf.wa (by decide)).wa (by decide)), Rl_of hl (((Ag.rf.w (by decide)).w (by decide)).w (by decide)) ((Ag.rf.wa (by decide)).wa (by decide)), ?_, Ri_of hi (((Ag.rf.w (by decide)).w (by decide)).w (by decide)) ((Ag.rf.wa (by decide)).wa (by decide)), Ro_of ho (((Ag.rf.w (by decide)).w (by decide)).w (by decide)) ((Ag.rf.wa (by decide)).wa (by decide)), Rp_of hp (((Ag.rf.w (by decide)).w (by decide)).w (by decide)) ((Ag.rf.wa (by decide)).wa (by decide)), Rs_of hs (((Ag.rf.w (by decide)).w (by decide)).w (by decide)) ((Ag.rf.wa (by decide)).wa (by decide)), Rm_of hm ((Ag.rf.wa (by decide)).wa (by decide)), hN⟩
  · intro d' hd' c' hc' hno
    simp (disch := first | decide | assumption | omega) only [xu_s, xu_f, xu_a, xu_o, xu_k, fill_a, fill_in, fill_out] at hno
    have hk9 : 4 * d' + c' ≠ 4 * d + c := fun e => by
      obtain ⟨rfl, rfl⟩ : d' = d ∧ c' = c := by omega
      exact hno ⟨hst, hch⟩
    simp (disch := first | decide | assumption | omega) only [xu_s, xu_f, xu_a, xu_o, xu_k, fill_a, fill_in, fill_out]
    exact hq d' hd' c' hc' hno
  · intro d' hd' c' hc'
    by_cases e : d' = d ∧ c' = c
    · obtain ⟨rfl, rfl⟩ := e
      simp (disch := first | decide | assumption | omega) only [xu_s, xu_f, xu_a, xu_o, xu_k, fill_a, fill_in, fill_out]
      rcases hb1 with ⟨rfl, rfl⟩ | ⟨rfl, rfl⟩
      · exact Or.inr (Or.inr (Or.inl ⟨rfl, rfl, rfl, trivial, hnb⟩))
      · exact Or.inr (Or.inl ⟨rfl, rfl, trivial, hnb⟩)
    · have hq9 : 20 * d' + 4 * c' ≠ 20 * d + 4 * c := by omega
      have hk9 : 4 * d' + c' ≠ 4 * d + c := by omega
      simp (disch := first | decide | assumption | omega) only [xu_s, xu_f, xu_a, xu_o, xu_k, fill_a, fill_in, fill_out]
      exact hk d' hd' c' hc'
theorem knows_R (h : RR n S M) (hb9 : n < 2147483647) (i0 : S 7 0 65 = nb) (i2 : S 7 2 65 = dv) (i5 : S 7 5 65 = v) (hd8 : vp_in dv 8) (hc4 : vp_in pt 4) (hnb : 0 ≤ nb.toInt) (hst : M 2 dv.toNatClampNeg 0 = 2) (hch : (pt.toNatClampNeg : Int) < (M 5 dv.toNatClampNeg 0).toInt) : RR (n + 1) (f_BN_learnAlarm S (20 * dv.toNatClampNeg + 4 * pt.toNatClampNeg)) (f_MO_knows M nb dv (4 * dv + pt) v) := by
  have hk := h.2.2.2.2.2.2.2.2.2.2.1 _ (xin_lt hd8) _ (xin_lt hc4)
  unfold f_BN_learnAlarm f_MO_knows
  rw [i0, i2, i5, t4 hd8 hc4]
  have z0 : (0 : Int32).toInt = 0 := by decide
  have hcond : (S 14 0 (20 * dv.toNatClampNeg + 4 * pt.toNatClampNeg) < nb) ↔ (M 34 (4 * dv.toNatClampNeg + pt.toNatClampNeg) 0 < nb ∨ M 33 (4 * dv.toNatClampNeg + pt.toNatClampNeg) 0 ≤ 0) := by
    rcases hk with ⟨k0, k1, k2⟩ | ⟨k0, k1, k2, -⟩ | ⟨k0, k1, k2, k3, -⟩ | ⟨k0, k1, k2, k3, -⟩
    · rw [k0, k1]
      exact ⟨fun _ => Or.inr (by decide), fun _ => i32_lt.mpr (by rw [show (-1 : Int32).toInt = -1 from by decide]; omega)⟩
    · rw [k0, k2]
      exact ⟨Or.inl, fun z => z.resolve_right (by decide)⟩
    · rw [k0, k3]
      exact ⟨Or.inl, fun z => z.resolve_right (by decide)⟩
    · rw [k0, k3]
      exact ⟨Or.inl, fun z => z.resolve_right (by decide)⟩
  have l1 := learn_R h (xin_lt hd8) (xin_lt hc4) hst hch hnb (b := 1) (b' := 2) (Or.inl ⟨rfl, rfl⟩)
  have l0 := learn_R h (xin_lt hd8) (xin_lt hc4) hst hch hnb (b := 0) (b' := 1) (Or.inr ⟨rfl, rfl⟩)
  have b1 : bz (f_KN_learn S (20 * dv.toNatClampNeg + 4 * pt.toNatClampNeg) nb 1 14 1 (20 * dv.toNatClampNeg + 4 * pt.toNatClampNeg)) = 1 := by
    unfold f_KN_learn
    simp (disch := first | decide | assumption | omega) only [xu_s, xu_f, xu_a, xu_o, xu_k, fill_a, fill_in, fill_out]
    decide
  have b0 : bz (f_KN_learn S (20 * dv.toNatClampNeg + 4 * pt.toNatClampNeg) nb 0 14 1 (20 * dv.toNatClampNeg + 4 * pt.toNatClampNeg)) = 0 := by
    unfold f_KN_learn
    simp (disch := first | decide | assumption | omega) only [xu_s, xu_f, xu_a, xu_o, xu_k, fill_a, fill_in, fill_out]
    decide
  by_cases hc : S 14 0 (20 * dv.toNatClampNeg + 4 * pt.toNatClampNeg) < nb
  · rw [if_pos hc]
    have hX : ∀ {X Y : XS}, (if M 34 (4 * dv.toNatClampNeg + pt.toNatClampNeg) 0 < nb then X else if M 33 (4 * dv.toNatClampNeg + pt.toNatClampNeg) 0 ≤ 0 then X else Y) = X := by
      intro X Y
      by_cases y1 : M 34 (4 * dv.toNatClampNeg + pt.toNatClampNeg) 0 < nb
      · rw [if_pos y1]
      · rw [if_neg y1, if_pos ((hcond.mp hc).resolve_left y1)]
    rw [hX]
    by_cases e1 : v = 1
    · rw [if_pos e1, if_pos e1, b1, if_neg (by decide)]
      exact sendSounds_R l1 hb9 hd8 (by simp (disch := first | decide | assumption | omega) only [xu_s, xu_f, xu_a, xu_o, xu_k, fill_a, fill_in, fill_out]; exact hst)
    · rw [if_neg e1, if_neg e1, if_pos b0]
      exact l0.mono (by omega)
  · rw [if_neg hc, if_neg (fun z => hc (hcond.mpr (Or.inl z))), if_neg (fun z => hc (hcond.mpr (Or.inr z)))]
    exact h.mono (by omega)
theorem hush_R (h : RR n S M) {d c : Nat} (hd8 : d < 8) (hc4 : c < 4) : RR n (f_AL_hush S (20 * d + 4 * c)) (xu M 31 (4 * d + c) 0 (if bz (M 31 (4 * d + c) 0) = 0 then if bz (M 30 (4 * d + c) 0) = 0 then 0 else 1 else 1)) := by
  unfold f_AL_hush
  obtain ⟨ha, hb, hd, hn, ht, hc, hq, hv, hw, hl, hk, hi, ho, hp, hs, hm, hN⟩ := h
  refine ⟨Ra_of ha (Ag.rf.w (by decide)) (Ag.rf.wa (by decide)), Rb_of hb (Ag.rf.w (by decide)) (Ag.rf.wa (by decide)), Rd_of hd (Ag.rf.w (by decide)) (Ag.rf.wa (by decide)), Rn_of hn (Ag.rf.w (by decide)) (Ag.rf.wa (by decide)), Rt_of ht (Ag.rf.w (by decide)) (Ag.rf.wa (by decide)), Rc_of hc (Ag.rf.w (by decide)) (Ag.rf.wa (by decide)), Rq_of hq (Ag.rf.wa (by decide)), Rv_of hv (Ag.rf.w (by decide)) (Ag.rf.wa (by decide)), Rw_of hw (Ag.rf.w (by decide)) (Ag.rf.wa (by decide)), ?_, Rk_of hk (Ag.rf.w (by decide)) (Ag.rf.wa (by decide)), Ri_of hi (Ag.rf.w (by decide)) (Ag.rf.wa (by decide)), Ro_of ho (Ag.rf.w (by decide)) (Ag.rf.wa (by decide)), Rp_of hp (Ag.rf.w (by decide)) (Ag.rf.wa (by decide)), Rs_of hs (Ag.rf.w (by decide)) (Ag.rf.wa (by decide)), Rm_of hm (Ag.rf.wa (by decide)), hN⟩
  intro d' hd' c' hc'
  have h0 := hl d' hd' c' hc'
  by_cases e : d' = d ∧ c' = c
  · obtain ⟨rfl, rfl⟩ := e
    simp (disch := first | decide | assumption | omega) only [xu_s, xu_f, xu_a, xu_o, xu_k, fill_a, fill_in, fill_out]
    obtain ⟨l1, l2, l3, l4, l5, l6, l7⟩ := h0
    refine ⟨l1, l2, l3, l4, ?_, ?_, l7⟩
    · rw [bz_bz, l4]
      by_cases e1 : bz (M 30 (4 * d' + c') 0) = 0
      · rw [if_pos (l6 e1), if_pos e1, e1]
        rfl
      · rw [bz_n e1, if_neg (show ¬ (1 : Int32) = 0 by decide)]
        split <;> rfl
    · intro e1
      rw [if_pos (l6 e1), if_pos e1]
      rfl
  · have hq9 : 20 * d' + 4 * c' ≠ 20 * d + 4 * c := by omega
    have hk9 : 4 * d' + c' ≠ 4 * d + c := by omega
    simp (disch := first | decide | assumption | omega) only [xu_s, xu_f, xu_a, xu_o, xu_k, fill_a, fill_in, fill_out]
    exact h0
theorem ack0_R (h : RR n S M) {d c : Nat} (hd8 : d < 8) (hc4 : c < 4) {v : Int32} (hv9 : bz v = bz (M 31 (4 * d + c) 0)) : RR n S (xu M 31 (4 * d + c) 0 v) := by
  obtain ⟨ha, hb, hd, hn, ht, hc, hq, hv, hw, hl, hk, hi, ho, hp, hs, hm, hN⟩ := h
  refine ⟨Ra_of ha (Ag.rf) (Ag.rf.wa (by decide)), Rb_of hb (Ag.rf) (Ag.rf.wa (by decide)), Rd_of hd (Ag.rf) (Ag.rf.wa (by decide)), Rn_of hn (Ag.rf) (Ag.rf.wa (by decide)), Rt_of ht (Ag.rf) (Ag.rf.wa (by decide)), Rc_of hc (Ag.rf) (Ag.rf.wa (by decide)), Rq_of hq (Ag.rf.wa (by decide)), Rv_of hv (Ag.rf) (Ag.rf.wa (by decide)), Rw_of hw (Ag.rf) (Ag.rf.wa (by decide)), ?_, Rk_of hk (Ag.rf) (Ag.rf.wa (by decide)), Ri_of hi (Ag.rf) (Ag.rf.wa (by decide)), Ro_of ho (Ag.rf) (Ag.rf.wa (by decide)), Rp_of hp (Ag.rf) (Ag.rf.wa (by decide)), Rs_of hs (Ag.rf) (Ag.rf.wa (by decide)), Rm_of hm (Ag.rf.wa (by decide)), hN⟩
  intro d' hd' c' hc'
  have h0 := hl d' hd' c' hc'
  by_cases e : d' = d ∧ c' = c
  · obtain ⟨rfl, rfl⟩ := e
    simp (disch := first | decide | assumption | omega) only [xu_s, xu_f, xu_a, xu_o, xu_k, fill_a, fill_in, fill_out]
    rw [hv9]
    exact h0
  · have hk9 : 4 * d' + c' ≠ 4 * d + c := by omega
    simp (disch := first | decide | assumption | omega) only [xu_s, xu_f, xu_a, xu_o, xu_k, fill_a, fill_in, fill_out]
    exact h0
theorem heard_R (h : RR n S M) {d : Nat} {v : Int32} : RR n (xu S 8 7 d v) (xu M 15 d 0 v) := by
  obtain ⟨ha, hb, hd, hn, ht, hc, hq, hv, hw, hl, hk, hi, ho, hp, hs, hm, hN⟩ := h
  refine ⟨Ra_of ha (Ag.rf.w (by decide)) (Ag.rf.wa (by decide)), Rb_of hb (Ag.rf.w (by decide)) (Ag.rf.wa (by decide)), Rd_of hd (Ag.rf.w (by decide)) (Ag.rf.wa (by decide)), ?_, Rt_of ht (Ag.rf.w (by decide)) (Ag.rf.wa (by decide)), Rc_of hc (Ag.rf.w (by decide)) (Ag.rf.wa (by decide)), Rq_of hq (Ag.rf.wa (by decide)), Rv_of hv (Ag.rf.w (by decide)) (Ag.rf.wa (by decide)), Rw_of hw (Ag.rf.w (by decide)) (Ag.rf.wa (by decide)), Rl_of hl (Ag.rf.w (by decide)) (Ag.rf.wa (by decide)), Rk_of hk (Ag.rf.w (by decide)) (Ag.rf.wa (by decide)), Ri_of hi (Ag.rf.w (by decide)) (Ag.rf.wa (by decide)), Ro_of ho (Ag.rf.w (by decide)) (Ag.rf.wa (by decide)), Rp_of hp (Ag.rf.w (by decide)) (Ag.rf.wa (by decide)), Rs_of hs (Ag.rf.w (by decide)) (Ag.rf.wa (by decide)), Rm_of hm (Ag.rf.wa (by decide)), hN⟩
  intro d' hd'
  have h0 := hn d' hd'
  by_cases e : d' = d
  · subst e
    simp (disch := first | decide | assumption | omega) only [xu_s, xu_f, xu_a, xu_o, xu_k, fill_a, fill_in, fill_out]
    exact ⟨Or.inl rfl, h0.2⟩
  · simp (disch := first | decide | assumption | omega) only [xu_s, xu_f, xu_a, xu_o, xu_k, fill_a, fill_in, fill_out]
    exact h0
theorem result_R (h : RR n S M) {j : Nat} (hj : (j : Int) < (M 0 56 0).toInt) {v : Int32} (hv0 : 0 ≤ v.toInt) : RR n (xu S 16 3 j v) (xu M 54 j 0 v) := by
  obtain ⟨ha, hb, hd, hn, ht, hc, hq, hv, hw, hl, hk, hi, ho, hp, hs, hm, hN⟩ := h
  refine ⟨Ra_of ha (Ag.rf.w (by decide)) (Ag.rf.wa (by decide)), Rb_of hb (Ag.rf.w (by decide)) (Ag.rf.wa (by decide)), Rd_of hd (Ag.rf.w (by decide)) (Ag.rf.wa (by decide)), Rn_of hn (Ag.rf.w (by decide)) (Ag.rf.wa (by decide)), Rt_of ht (Ag.rf.w (by decide)) (Ag.rf.wa (by decide)), Rc_of hc (Ag.rf.w (by decide)) (Ag.rf.wa (by decide)), Rq_of hq (Ag.rf.wa (by decide)), Rv_of hv (Ag.rf.w (by decide)) (Ag.rf.wa (by decide)), Rw_of hw (Ag.rf.w (by decide)) (Ag.rf.wa (by decide)), Rl_of hl (Ag.rf.w (by decide)) (Ag.rf.wa (by decide)), Rk_of hk (Ag.rf.w (by decide)) (Ag.rf.wa (by decide)), Ri_of hi (Ag.rf.w (by decide)) (Ag.rf.wa (by decide)), ?_, Rp_of hp (Ag.rf.w (by decide)) (Ag.rf.wa (by decide)), Rs_of hs (Ag.rf.w (by decide)) (Ag.rf.wa (by decide)), Rm_of hm (Ag.rf.wa (by decide)), hN⟩
  obtain ⟨o1, o2, o3⟩ := ho
  unfold Ro
  simp (disch := first | decide | assumption | omega) only [xu_s, xu_f, xu_a, xu_o, xu_k, fill_a, fill_in, fill_out]
  refine ⟨o1, o2, fun j' hj' => ?_⟩
  obtain ⟨p1, p2, p3⟩ := o3 j' hj'
  by_cases e : j' = j
  · subst e
    simp (disch := first | decide | assumption | omega) only [xu_s, xu_f, xu_a, xu_o, xu_k, fill_a, fill_in, fill_out]
    obtain ⟨r1, r2, r3, r4, r5, r6⟩ := p1 hj
    exact ⟨fun _ => ⟨r1, r2, r3, r4, trivial, Or.inr hv0⟩, fun z => absurd hj z, p3⟩
  · simp (disch := first | decide | assumption | omega) only [xu_s, xu_f, xu_a, xu_o, xu_k, fill_a, fill_in, fill_out]
    exact ⟨p1, p2, p3⟩
theorem answer_R (h : RR n S M) {j : Nat} {v : Int32} : RR n (xu S 16 4 j v) (xu M 55 j 0 v) := by
  obtain ⟨ha, hb, hd, hn, ht, hc, hq, hv, hw, hl, hk, hi, ho, hp, hs, hm, hN⟩ := h
  refine ⟨Ra_of ha (Ag.rf.w (by decide)) (Ag.rf.wa (by decide)), Rb_of hb (Ag.rf.w (by decide)) (Ag.rf.wa (by decide)), Rd_of hd (Ag.rf.w (by decide)) (Ag.rf.wa (by decide)), Rn_of hn (Ag.rf.w (by decide)) (Ag.rf.wa (by decide)), Rt_of ht (Ag.rf.w (by decide)) (Ag.rf.wa (by decide)), Rc_of hc (Ag.rf.w (by decide)) (Ag.rf.wa (by decide)), Rq_of hq (Ag.rf.wa (by decide)), Rv_of hv (Ag.rf.w (by decide)) (Ag.rf.wa (by decide)), Rw_of hw (Ag.rf.w (by decide)) (Ag.rf.wa (by decide)), Rl_of hl (Ag.rf.w (by decide)) (Ag.rf.wa (by decide)), Rk_of hk (Ag.rf.w (by decide)) (Ag.rf.wa (by decide)), Ri_of hi (Ag.rf.w (by decide)) (Ag.rf.wa (by decide)), ?_, Rp_of hp (Ag.rf.w (by decide)) (Ag.rf.wa (by decide)), Rs_of hs (Ag.rf.w (by decide)) (Ag.rf.wa (by decide)), Rm_of hm (Ag.rf.wa (by decide)), hN⟩
  obtain ⟨o1, o2, o3⟩ := ho
  unfold Ro
  simp (disch := first | decide | assumption | omega) only [xu_s, xu_f, xu_a, xu_o, xu_k, fill_a, fill_in, fill_out]
  refine ⟨o1, o2, fun j' hj' => ?_⟩
  obtain ⟨p1, p2, p3⟩ := o3 j' hj'
  by_cases e : j' = j
  · subst e
    simp (disch := first | decide | assumption | omega) only [xu_s, xu_f, xu_a, xu_o, xu_k, fill_a, fill_in, fill_out]
    exact ⟨p1, p2, trivial⟩
  · simp (disch := first | decide | assumption | omega) only [xu_s, xu_f, xu_a, xu_o, xu_k, fill_a, fill_in, fill_out]
    exact ⟨p1, p2, p3⟩
theorem point_R (h : RR n S M) {d : Nat} {v : Int32} : RR n (xu S 10 2 d v) (xu M 12 d 0 v) := by
  obtain ⟨ha, hb, hd, hn, ht, hc, hq, hv, hw, hl, hk, hi, ho, hp, hs, hm, hN⟩ := h
  refine ⟨Ra_of ha (Ag.rf.w (by decide)) (Ag.rf.wa (by decide)), Rb_of hb (Ag.rf.w (by decide)) (Ag.rf.wa (by decide)), Rd_of hd (Ag.rf.w (by decide)) (Ag.rf.wa (by decide)), Rn_of hn (Ag.rf.w (by decide)) (Ag.rf.wa (by decide)), ?_, Rc_of hc (Ag.rf.w (by decide)) (Ag.rf.wa (by decide)), Rq_of hq (Ag.rf.wa (by decide)), Rv_of hv (Ag.rf.w (by decide)) (Ag.rf.wa (by decide)), Rw_of hw (Ag.rf.w (by decide)) (Ag.rf.wa (by decide)), Rl_of hl (Ag.rf.w (by decide)) (Ag.rf.wa (by decide)), Rk_of hk (Ag.rf.w (by decide)) (Ag.rf.wa (by decide)), Ri_of hi (Ag.rf.w (by decide)) (Ag.rf.wa (by decide)), Ro_of ho (Ag.rf.w (by decide)) (Ag.rf.wa (by decide)), Rp_of hp (Ag.rf.w (by decide)) (Ag.rf.wa (by decide)), Rs_of hs (Ag.rf.w (by decide)) (Ag.rf.wa (by decide)), Rm_of hm (Ag.rf.wa (by decide)), hN⟩
  intro d' hd'
  have h0 := ht d' hd'
  by_cases e : d' = d
  · subst e
    simp (disch := first | decide | assumption | omega) only [xu_s, xu_f, xu_a, xu_o, xu_k, fill_a, fill_in, fill_out]
    exact ⟨h0.1, trivial, h0.2.2.1, h0.2.2.2.1, h0.2.2.2.2⟩
  · simp (disch := first | decide | assumption | omega) only [xu_s, xu_f, xu_a, xu_o, xu_k, fill_a, fill_in, fill_out]
    exact h0
theorem judge_eq (h : RR n S M) (i4 : S 7 4 65 = lf) (hd8 : vp_in dv 8) (hp0 : 0 ≤ pt.toInt) (hp1 : pt.toInt < (M 0 56 0).toInt) (hst8 : ¬ bz (M 8 dv.toNatClampNeg 0) = 0) : f_BN_judge S pt.toNatClampNeg dv.toNatClampNeg = f_MO_judged M dv pt lf := by
  have hh := holder_eq h hd8
  have ho := h.2.2.2.2.2.2.2.2.2.2.2.2.1
  have hpn := i32_nat hp0
  obtain ⟨r1, r2, r3, r4, r5, r6⟩ := (ho.2.2 pt.toNatClampNeg (by have := ho.2.1.2; omega)).1 (by omega)
  obtain ⟨t1, t2, t3, t4, t5⟩ := h.2.2.2.2.1 _ (xin_lt hd8)
  obtain ⟨f0, f1, f2, f3⟩ := t5 hst8
  unfold f_BN_judge f_MO_judged
  rw [hh, i4, (h.2.2.1 _ (xin_lt hd8)).2.2.1, r1, r3, r4, t2, t3, fits_eq f0 f1 f2 f3]
  have hm1 : ¬ (-1 : Int32) = M 51 pt.toNatClampNeg 0 := fun z => by
    rw [← z] at r2
    exact absurd r2 (by decide)
  by_cases e1 : lf = M 4 dv.toNatClampNeg 0
  · rw [if_pos e1, if_pos e1]
    unfold f_MO_isLeased
    by_cases e2 : M 13 dv.toNatClampNeg 0 = -1
    · rw [if_pos e2, if_pos rfl, if_neg hm1, if_neg (fun z => hm1 (e2.symm.trans z))]
    · rw [if_neg e2]
      by_cases e3 : 10000 ≤ M 0 1 0 - M 14 dv.toNatClampNeg 0
      · rw [if_pos e3, if_pos rfl, if_neg hm1, if_neg (fun z : M 0 1 0 - M 14 dv.toNatClampNeg 0 < 10000 => nlt_le.mp z e3)]
        split <;> rfl
      · rw [if_neg e3, if_neg (show ¬ (1 : Int32) = 0 by decide), if_pos (show M 0 1 0 - M 14 dv.toNatClampNeg 0 < 10000 from nlt_le.mpr e3)]
  · rw [if_neg e1, if_neg e1]
theorem judged_nn : 0 ≤ (f_MO_judged M dv pt lf).toInt := by
  unfold f_MO_judged
  repeat' split
  all_goals decide
theorem orders_R (h : RR n S M) (hb9 : n < 2147483647) (i2 : S 7 2 65 = dv) (i3 : S 7 3 65 = pt) (i4 : S 7 4 65 = lf) (hd8 : vp_in dv 8) (hp0 : 0 ≤ pt.toInt) (hp1 : pt.toInt < (M 0 56 0).toInt) (hst : M 2 dv.toNatClampNeg 0 = 2) (hst8 : ¬ bz (M 8 dv.toNatClampNeg 0) = 0) : RR (n + 1) (f_BN_takeOrder S dv.toNatClampNeg) (f_MO_orders M dv pt lf) := by
  have hj := judge_eq h i4 hd8 hp0 hp1 hst8
  have ho := h.2.2.2.2.2.2.2.2.2.2.2.2.1
  have hpn := i32_nat hp0
  obtain ⟨r1, r2, r3, r4, r5, r6⟩ := (ho.2.2 pt.toNatClampNeg (by have := ho.2.1.2; omega)).1 (by omega)
  unfold f_BN_takeOrder f_MO_orders
  rw [i2, i3, hj, r5, r3]
  have hsend : ∀ {s2 m2 : XS} {v : Int32}, RR n s2 m2 → m2 2 dv.toNatClampNeg 0 = 2 → m2 0 56 0 = M 0 56 0 → RR (n + 1) (f_BN_send s2 6 dv pt v) (f_MO_send m2 6 dv pt v 0) := by
    intro s2 m2 v h2 e1 e2
    exact send_R h2 hb9 hd8 (by decide) e1 (fun z => absurd z (by decide)) (fun _ => ⟨hp0, by rw [e2]; exact hp1⟩) (fun z => absurd z (by decide)) (fun z => absurd z (by decide))
  have z0 : (0 : Int32).toInt = 0 := by decide
  by_cases e1 : M 54 pt.toNatClampNeg 0 = -1
  · rw [if_pos e1, if_neg (show ¬ 0 ≤ M 54 pt.toNatClampNeg 0 from fun z => by rw [e1] at z; exact absurd z (by decide))]
    have h2 := result_R h (j := pt.toNatClampNeg) (by omega) (v := f_MO_judged M dv pt lf) judged_nn
    by_cases e2 : f_MO_judged M dv pt lf = 0
    · rw [if_pos e2, if_pos e2]
      exact hsend (point_R h2) (by simp (disch := first | decide | assumption | omega) only [xu_s, xu_f, xu_a, xu_o, xu_k, fill_a, fill_in, fill_out]; exact hst) (by simp (disch := first | decide | assumption | omega) only [xu_s, xu_f, xu_a, xu_o, xu_k, fill_a, fill_in, fill_out])
    · rw [if_neg e2, if_neg e2]
      exact hsend h2 (by simp (disch := first | decide | assumption | omega) only [xu_s, xu_f, xu_a, xu_o, xu_k, fill_a, fill_in, fill_out]; exact hst) (by simp (disch := first | decide | assumption | omega) only [xu_s, xu_f, xu_a, xu_o, xu_k, fill_a, fill_in, fill_out])
  · rw [if_neg e1, if_pos (show 0 ≤ M 54 pt.toNatClampNeg 0 from i32_le.mpr (by rw [z0]; exact r6.resolve_left e1))]
    exact hsend h hst rfl
/-- the reference's delivery -/
def fM (M : XS) (nb kd dv pt lf v t w : Int32) : XS :=
  if lf = M 4 dv.toNatClampNeg 0 then (if kd = 1 then f_MO_shows M nb (4 * dv + pt) lf v t w
    else if kd = 2 then f_MO_knows M nb dv (4 * dv + pt) v
    else if kd = 3 then xu M 15 dv.toNatClampNeg 0 (M 0 1 0)
    else if kd = 4 then xu M 31 (4 * dv + pt).toNatClampNeg 0 (if bz (M 31 (4 * dv + pt).toNatClampNeg 0) = 0 then if bz (M 30 (4 * dv + pt).toNatClampNeg 0) = 0 then 0 else 1 else 1)
    else if kd = 5 then f_MO_orders M dv pt lf
    else xu M 55 pt.toNatClampNeg 0 (1 + v))
  else if kd = 1 then M
  else if kd = 2 then M
  else if kd = 3 then xu M 15 dv.toNatClampNeg 0 (M 15 dv.toNatClampNeg 0)
  else if kd = 4 then xu M 31 (4 * dv + pt).toNatClampNeg 0 (if bz (M 31 (4 * dv + pt).toNatClampNeg 0) = 0 then 0 else 1)
  else if kd = 5 then f_MO_orders M dv pt lf
  else xu M 55 pt.toNatClampNeg 0 (1 + v)
theorem deliver_R (h : RR n S M) (hb9 : n < 2147483647) (i0 : S 7 0 65 = nb) (i1 : S 7 1 65 = kd) (i2 : S 7 2 65 = dv) (i3 : S 7 3 65 = pt) (i4 : S 7 4 65 = lf) (i5 : S 7 5 65 = v) (i67 : kd = 1 → S 7 6 65 = t ∧ S 7 7 65 = w) (hnb : 0 ≤ nb.toInt) (hd8 : vp_in dv 8) (hkd : 1 ≤ kd.toInt ∧ kd.toInt ≤ 6) (hst : M 2 dv.toNatClampNeg 0 = 2) (hp1 : (kd = 1 ∨ kd = 2 ∨ kd = 4) → 0 ≤ pt.toInt ∧ pt.toInt < (M 5 dv.toNatClampNeg 0).toInt) (hp2 : (kd = 5 ∨ kd = 6) → 0 ≤ pt.toInt ∧ pt.toInt < (M 0 56 0).toInt) (h5 : kd = 5 → ¬ bz (M 8 dv.toNatClampNeg 0) = 0) : RR (n + 1) (f_BN_deliver S) (fM M nb kd dv pt lf v t w) := by
  have hlf := (h.2.2.1 _ (xin_lt hd8)).2.2.1
  have hch4 := h.ch _ (xin_lt hd8)
  have hpt : (kd = 1 ∨ kd = 2 ∨ kd = 4) → vp_in pt 4 ∧ (pt.toNatClampNeg : Int) < (M 5 dv.toNatClampNeg 0).toInt := fun z => by
    have := hp1 z
    have e := i32_nat this.1
    exact ⟨vp_in_iff.mpr ⟨this.1, by omega⟩, by omega⟩
  unfold f_BN_deliver f_BN_deliverWithinLife fM
  rw [i1, i2, i3, i4, i5, hlf]
  by_cases k5 : kd = 5
  · have := orders_R h hb9 i2 i3 i4 hd8 (hp2 (Or.inl k5)).1 (hp2 (Or.inl k5)).2 hst (h5 k5)
    have k1 : ¬ kd = 1 := by rw [k5]; decide
    have k2 : ¬ kd = 2 := by rw [k5]; decide
    have k3 : ¬ kd = 3 := by rw [k5]; decide
    have k4 : ¬ kd = 4 := by rw [k5]; decide
    rw [if_pos k5]
    simp only [if_neg k1, if_neg k2, if_neg k3, if_neg k4, if_pos k5]
    by_cases e1 : lf = M 4 dv.toNatClampNeg 0
    · rw [if_pos e1]
      exact this
    · rw [if_neg e1]
      exact this
  · rw [if_neg k5]
    by_cases k6 : kd = 6
    · have := (answer_R h (j := pt.toNatClampNeg) (v := 1 + v)).mono (show n ≤ n + 1 by omega)
      have k1 : ¬ kd = 1 := by rw [k6]; decide
      have k2 : ¬ kd = 2 := by rw [k6]; decide
      have k3 : ¬ kd = 3 := by rw [k6]; decide
      have k4 : ¬ kd = 4 := by rw [k6]; decide
      rw [if_pos k6]
      simp only [if_neg k1, if_neg k2, if_neg k3, if_neg k4, if_neg k5]
      by_cases e1 : lf = M 4 dv.toNatClampNeg 0
      · rw [if_pos e1]
        exact this
      · rw [if_neg e1]
        exact this
    · rw [if_neg k6]
      by_cases e1 : lf = M 4 dv.toNatClampNeg 0
      · rw [if_pos e1, if_pos e1]
        by_cases k1 : kd = 1
        · obtain ⟨q1, q2⟩ := hpt (Or.inl k1)
          rw [if_pos k1, if_pos k1]
          unfold f_MO_shows
          exact (shows_R hd8 q1 hnb 17 S M 0 h i0 i2 i3 i4 i5 (i67 k1).1 (i67 k1).2 lpi_st).mono (by omega)
        · rw [if_neg k1, if_neg k1]
          by_cases k2 : kd = 2
          · obtain ⟨q1, q2⟩ := hpt (Or.inr (Or.inl k2))
            rw [if_pos k2, if_pos k2]
            exact knows_R h hb9 i0 i2 i5 hd8 q1 hnb hst q2
          · rw [if_neg k2, if_neg k2]
            by_cases k3 : kd = 3
            · rw [if_pos k3, if_pos k3, h.1.1]
              exact (heard_R h).mono (by omega)
            · rw [if_neg k3, if_neg k3]
              by_cases k4 : kd = 4
              · obtain ⟨q1, q2⟩ := hpt (Or.inr (Or.inr k4))
                rw [if_pos k4, if_pos k4, t4 hd8 q1]
                exact (hush_R h (xin_lt hd8) (xin_lt q1)).mono (by omega)
              · exfalso
                have a1 := lv_neT k1 (a := 1) (by decide)
                have a2 := lv_neT k2 (a := 2) (by decide)
                have a3 := lv_neT k3 (a := 3) (by decide)
                have a4 := lv_neT k4 (a := 4) (by decide)
                have a5 := lv_neT k5 (a := 5) (by decide)
                have a6 := lv_neT k6 (a := 6) (by decide)
                omega
      · rw [if_neg e1, if_neg e1]
        have hm := h.mono (show n ≤ n + 1 by omega)
        by_cases k1 : kd = 1
        · rw [if_pos k1]
          exact hm
        · rw [if_neg k1]
          by_cases k2 : kd = 2
          · rw [if_pos k2]
            exact hm
          · rw [if_neg k2]
            by_cases k3 : kd = 3
            · rw [if_pos k3, xu_id]
              exact hm
            · rw [if_neg k3]
              by_cases k4 : kd = 4
              · obtain ⟨q1, q2⟩ := hpt (Or.inr (Or.inr k4))
                rw [if_pos k4, t4 hd8 q1]
                refine ack0_R hm (xin_lt hd8) (xin_lt q1) ?_
                by_cases z : bz (M 31 (4 * dv.toNatClampNeg + pt.toNatClampNeg) 0) = 0
                · rw [if_pos z, z]
                  rfl
                · rw [if_neg z, bz_n z]
                  rfl
              · exfalso
                have a1 := lv_neT k1 (a := 1) (by decide)
                have a2 := lv_neT k2 (a := 2) (by decide)
                have a3 := lv_neT k3 (a := 3) (by decide)
                have a4 := lv_neT k4 (a := 4) (by decide)
                have a5 := lv_neT k5 (a := 5) (by decide)
                have a6 := lv_neT k6 (a := 6) (by decide)
                omega
theorem carryM_eq {a1 a2 : Int32} (hf : 0 ≤ f_MO_find (xu mt 0 0 0 0) a1) : f_MO_carry mt a1 a2 = (f_MO_settle (fM (if a2 = 0 then f_MO_take (xu mt 0 0 0 0) (f_MO_find (xu mt 0 0 0 0) a1) else xu mt 0 0 0 0) a1 (mt 37 (f_MO_find (xu mt 0 0 0 0) a1).toNatClampNeg 0) (mt 38 (f_MO_find (xu mt 0 0 0 0) a1).toNatClampNeg 0) (mt 39 (f_MO_find (xu mt 0 0 0 0) a1).toNatClampNeg 0) (mt 40 (f_MO_find (xu mt 0 0 0 0) a1).toNatClampNeg 0) (mt 41 (f_MO_find (xu mt 0 0 0 0) a1).toNatClampNeg 0) (mt 42 (f_MO_find (xu mt 0 0 0 0) a1).toNatClampNeg 0) (mt 43 (f_MO_find (xu mt 0 0 0 0) a1).toNatClampNeg 0)), 1) := by
  unfold f_MO_carry
  rw [if_pos hf]
  generalize f_MO_find (xu mt 0 0 0 0) a1 = x
  unfold fM
  by_cases e2 : a2 = 0
  · rw [if_pos e2, if_pos e2]
    have f4 : ∀ k, f_MO_take (xu mt 0 0 0 0) x 4 k 0 = mt 4 k 0 := fun k => (fr_MO_take (by simp) (by decide)).trans (xu_a (by decide))
    have f15 : ∀ k, f_MO_take (xu mt 0 0 0 0) x 15 k 0 = mt 15 k 0 := fun k => (fr_MO_take (by simp) (by decide)).trans (xu_a (by decide))
    have f30 : ∀ k, f_MO_take (xu mt 0 0 0 0) x 30 k 0 = mt 30 k 0 := fun k => (fr_MO_take (by simp) (by decide)).trans (xu_a (by decide))
    have f31 : ∀ k, f_MO_take (xu mt 0 0 0 0) x 31 k 0 = mt 31 k 0 := fun k => (fr_MO_take (by simp) (by decide)).trans (xu_a (by decide))
    have f01 : f_MO_take (xu mt 0 0 0 0) x 0 1 0 = mt 0 1 0 := (fr_MO_take (by decide) (by decide)).trans (xu_f (by decide))
    simp only [f4, f15, f30, f31, f01]
    generalize f_MO_take (xu mt 0 0 0 0) x = T
    by_cases c1 : mt 40 x.toNatClampNeg 0 = mt 4 (mt 38 x.toNatClampNeg 0).toNatClampNeg 0
    · rw [if_pos c1, if_pos c1]
      by_cases k1 : mt 37 x.toNatClampNeg 0 = 1
      · rw [if_pos k1, if_pos k1]
      · rw [if_neg k1, if_neg k1]
        by_cases k2 : mt 37 x.toNatClampNeg 0 = 2
        · rw [if_pos k2, if_pos k2]
        · rw [if_neg k2, if_neg k2]
          by_cases k3 : mt 37 x.toNatClampNeg 0 = 3
          · rw [if_pos k3, if_pos k3]
          · rw [if_neg k3, if_neg k3]
            by_cases k4 : mt 37 x.toNatClampNeg 0 = 4
            · rw [if_pos k4, if_pos k4]
              split
              · split
                · rfl
                · rfl
              · rfl
            · rw [if_neg k4, if_neg k4]
              by_cases k5 : mt 37 x.toNatClampNeg 0 = 5
              · rw [if_pos k5, if_pos k5]
              · rw [if_neg k5, if_neg k5]
    · rw [if_neg c1, if_neg c1]
      by_cases k1 : mt 37 x.toNatClampNeg 0 = 1
      · rw [if_pos k1, if_pos k1]
      · rw [if_neg k1, if_neg k1]
        by_cases k2 : mt 37 x.toNatClampNeg 0 = 2
        · rw [if_pos k2, if_pos k2]
        · rw [if_neg k2, if_neg k2]
          by_cases k3 : mt 37 x.toNatClampNeg 0 = 3
          · rw [if_pos k3, if_pos k3]
          · rw [if_neg k3, if_neg k3]
            by_cases k4 : mt 37 x.toNatClampNeg 0 = 4
            · rw [if_pos k4, if_pos k4]
              split
              · rfl
              · rfl
            · rw [if_neg k4, if_neg k4]
              by_cases k5 : mt 37 x.toNatClampNeg 0 = 5
              · rw [if_pos k5, if_pos k5]
              · rw [if_neg k5, if_neg k5]
  · rw [if_neg e2, if_neg e2]
    have f4 : ∀ k, (xu mt 0 0 0 0) 4 k 0 = mt 4 k 0 := fun k => xu_a (by decide)
    have f15 : ∀ k, (xu mt 0 0 0 0) 15 k 0 = mt 15 k 0 := fun k => xu_a (by decide)
    have f30 : ∀ k, (xu mt 0 0 0 0) 30 k 0 = mt 30 k 0 := fun k => xu_a (by decide)
    have f31 : ∀ k, (xu mt 0 0 0 0) 31 k 0 = mt 31 k 0 := fun k => xu_a (by decide)
    have f01 : (xu mt 0 0 0 0) 0 1 0 = mt 0 1 0 := xu_f (by decide)
    simp only [f4, f15, f30, f31, f01]
    generalize xu mt 0 0 0 0 = T
    by_cases c1 : mt 40 x.toNatClampNeg 0 = mt 4 (mt 38 x.toNatClampNeg 0).toNatClampNeg 0
    · rw [if_pos c1, if_pos c1]
      by_cases k1 : mt 37 x.toNatClampNeg 0 = 1
      · rw [if_pos k1, if_pos k1]
      · rw [if_neg k1, if_neg k1]
        by_cases k2 : mt 37 x.toNatClampNeg 0 = 2
        · rw [if_pos k2, if_pos k2]
        · rw [if_neg k2, if_neg k2]
          by_cases k3 : mt 37 x.toNatClampNeg 0 = 3
          · rw [if_pos k3, if_pos k3]
          · rw [if_neg k3, if_neg k3]
            by_cases k4 : mt 37 x.toNatClampNeg 0 = 4
            · rw [if_pos k4, if_pos k4]
              split
              · split
                · rfl
                · rfl
              · rfl
            · rw [if_neg k4, if_neg k4]
              by_cases k5 : mt 37 x.toNatClampNeg 0 = 5
              · rw [if_pos k5, if_pos k5]
              · rw [if_neg k5, if_neg k5]
    · rw [if_neg c1, if_neg c1]
      by_cases k1 : mt 37 x.toNatClampNeg 0 = 1
      · rw [if_pos k1, if_pos k1]
      · rw [if_neg k1, if_neg k1]
        by_cases k2 : mt 37 x.toNatClampNeg 0 = 2
        · rw [if_pos k2, if_pos k2]
        · rw [if_neg k2, if_neg k2]
          by_cases k3 : mt 37 x.toNatClampNeg 0 = 3
          · rw [if_pos k3, if_pos k3]
          · rw [if_neg k3, if_neg k3]
            by_cases k4 : mt 37 x.toNatClampNeg 0 = 4
            · rw [if_pos k4, if_pos k4]
              split
              · rfl
              · rfl
            · rw [if_neg k4, if_neg k4]
              by_cases k5 : mt 37 x.toNatClampNeg 0 = 5
              · rw [if_pos k5, if_pos k5]
              · rw [if_neg k5, if_neg k5]
theorem eq_carry (h : RR n st mt) (hz : Rz mt) (hb9 : n + 100 < 2147483647) {a1 a2 : Int32} : Ok n (f_BN_carry st a1 a2) (f_MO_carry mt a1 a2) := by
  have h' := h.th (v := 0)
  rcases find_R h' a1 with ⟨j, j1, j2, j3, j4⟩ | ⟨j3, j4⟩
  · rw [carryM_eq (ge_0 j4)]
    unfold f_BN_carry
    rw [if_neg (ne_m1 j3), show f_MO_find (xu mt 0 0 0 0) a1 = f_PO_indexOf st a1 from i32_ext (j4.trans j3.symm), nat_ix j3]
    have hcp := copy_R h' (o := (st 6 j 0).toNatClampNeg)
    obtain ⟨ha, hb, hd, hn, ht, hc, hq, hv, hw, hl, hk, hi, ho, hp, hs, hm, hN⟩ := h
    simp (disch := first | decide | assumption | omega) only [xu_s, xu_f, xu_a, xu_o, xu_k, fill_a, fill_in, fill_out] at j1 j2
    have hP := hp.2.1
    have hlt : (st 6 j 0).toNatClampNeg < 65 := hp.2.2.2.1 j (by omega)
    obtain ⟨q0, q1, q2, q3, q4, q5, q6⟩ := hp.2.2.2.2.2 j j1
    obtain ⟨c0, c1, c2, c3, c4, c5, c6, c7⟩ := cp_65 (st := st) (o := (st 6 j 0).toNatClampNeg) (by omega)
    obtain ⟨m1, m2, m3, m4, m5, m6⟩ := hm j j1
    have hnb := (hs.2.2.1 j j1).1
    rw [j2] at q0 hnb
    have key : ∀ {S M : XS}, RR n S M → (∀ k, S 7 k 65 = f_ME_copy st 65 (st 6 j 0).toNatClampNeg 7 k 65) → (∀ a k, (a = 2 ∨ a = 5 ∨ a = 8) → M a k 0 = mt a k 0) → M 0 56 0 = mt 0 56 0 → Ok n (f_BN_settleAlarms (f_BN_deliver S), 1) (f_MO_settle (fM M a1 (mt 37 j 0) (mt 38 j 0) (mt 39 j 0) (mt 40 j 0) (mt 41 j 0) (mt 42 j 0) (mt 43 j 0)), 1) := by
      intro S M hR e7 eM e56
      have hD := deliver_R hR (by omega) ((e7 0).trans (c0.trans q0)) ((e7 1).trans (c1.trans q1)) ((e7 2).trans (c2.trans q2)) ((e7 3).trans (c3.trans q3)) ((e7 4).trans (c4.trans q4)) ((e7 5).trans (c5.trans q5)) (fun z => ⟨(e7 6).trans (c6.trans (q6 z).1), (e7 7).trans (c7.trans (q6 z).2)⟩) hnb m1 m2 (by rw [eM 2 _ (by decide)]; exact m3) (by rw [eM 5 _ (by decide)]; exact m4) (by rw [e56]; exact m5) (by rw [eM 8 _ (by decide)]; exact m6)
      obtain ⟨h4, hz4⟩ := settle_R hD (by omega)
      refine ⟨rfl, ?_, ?_⟩
      · dsimp only
        exact h4.mono (by omega)
      · dsimp only
        exact hz4
    by_cases e2 : a2 = 0
    · rw [if_pos e2, if_pos e2]
      refine key (take_R hcp j3 (by simp (disch := first | decide | assumption | omega) only [xu_s, xu_f, xu_a, xu_o, xu_k, fill_a, fill_in, fill_out]; exact j1)) (fun k => fr_PO_remove (by simp) (by decide)) (fun a k z => ?_) ((fr_MO_take (by decide) (by decide)).trans (xu_f (by decide)))
      rcases z with rfl | rfl | rfl
      · exact (fr_MO_take (by simp) (by decide)).trans (xu_a (by decide))
      · exact (fr_MO_take (by simp) (by decide)).trans (xu_a (by decide))
      · exact (fr_MO_take (by simp) (by decide)).trans (xu_a (by decide))
    · rw [if_neg e2, if_neg e2]
      refine key hcp (fun k => rfl) (fun a k z => ?_) (xu_f (by decide))
      rcases z with rfl | rfl | rfl
      · exact xu_a (by decide)
      · exact xu_a (by decide)
      · exact xu_a (by decide)
  · unfold f_BN_carry f_MO_carry
    rw [if_pos j3, if_neg (fun z => by rw [j4] at z; exact absurd z (by decide))]
    exact Ok.no h hz
end CRY
