section ORD
variable {n : Nat} {st mt : XS}
theorem order_R (h : RR n st mt) {a1 a3 a4 : Int32} (hc0 : 0 ≤ a1.toInt) (hlt : (mt 0 56 0).toInt < 100) : RR n (xu (f_OR_write st (mt 0 56 0).toNatClampNeg a1 a3 a4) 0 7 0 (mt 0 56 0 + 1)) (xu (xu (xu (xu (xu mt 51 (mt 0 56 0).toNatClampNeg 0 a1) 52 (mt 0 56 0).toNatClampNeg 0 a3) 53 (mt 0 56 0).toNatClampNeg 0 a4) 54 (mt 0 56 0).toNatClampNeg 0 (-1)) 0 56 0 (mt 0 56 0 + 1)) := by
  unfold f_OR_write
  obtain ⟨ha, hb, hd, hn, ht, hc, hq, hv, hw, hl, hk, hi, ho, hp, hs, hm, hN⟩ := h
  have hinc := i32_inc ho.2.1.1 (by omega)
  have hnn := i32_nat ho.2.1.1
  refine ⟨Ra_of ha ((((Ag.rf.w (by decide)).w (by decide)).w (by decide)).w (by decide)) (((((Ag.rf.wa (by decide)).wa (by decide)).wa (by decide)).wa (by decide)).w (by decide)), Rb_of hb ((((Ag.rf.w (by decide)).w (by decide)).w (by decide)).w (by decide)) (((((Ag.rf.wa (by decide)).wa (by decide)).wa (by decide)).wa (by decide)).w (by decide)), Rd_of hd ((((Ag.rf.w (by decide)).w (by decide)).w (by decide)).w (by decide)) (((((Ag.rf.wa (by decide)).wa (by decide)).wa (by decide)).wa (by decide)).w (by decide)), Rn_of hn ((((Ag.rf.w (by decide)).w (by decide)).w (by decide)).w (by decide)) (((((Ag.rf.wa (by decide)).wa (by decide)).wa (by decide)).wa (by decide)).w (by decide)), Rt_of ht ((((Ag.rf.w (by decide)).w (by decide)).w (by decide)).w (by decide)) (((((Ag.rf.wa (by decide)).wa (by decide)).wa (by decide)).wa (by decide)).w (by decide)), Rc_of hc ((((Ag.rf.w (by decide)).w (by decide)).w (by decide)).w (by decide)) (((((Ag.rf.wa (by decide)).wa (by decide)).wa (by decide)).wa (by decide)).w (by decide)), Rq_of hq (((((Ag.rf.wa (by decide)).wa (by decide)).wa (by decide)).wa (by decide)).w (by decide)), Rv_of hv ((((Ag.rf.w (by decide)).w (by decide)).w (by decide)).w (by decide)) (((((Ag.rf.wa (by decide)).wa (by decide)).wa (by decide)).wa (by decide)).w (by decide)), Rw_of hw ((((Ag.rf.w (by decide)).w (by decide)).w (by decide)).w (by decide)) (((((Ag.rf.wa (by decide)).wa (by decide)).wa (by decide)).wa (by decide)).w (by decide)), Rl_of hl ((((Ag.rf.w (by decide)).w (by decide)).w (by decide)).w (by decide)) (((((Ag.rf.wa (by decide)).wa (by decide)).wa (by decide)).wa (by decide)).w (by decide)), Rk_of hk ((((Ag.rf.w (by decide)).w (by decide)).w (by decide)).w (by decide)) (((((Ag.rf.wa (by decide)).wa (by decide)).wa (by decide)).wa (by decide)).w (by decide)), Ri_of hi ((((Ag.rf.w (by decide)).w (by decide)).w (by decide)).w (by decide)) (((((Ag.rf.wa (by decide)).wa (by decide)).wa (by decide)).wa (by decide)).w (by decide)), ?_, Rp_of hp ((((Ag.rf.w (by decide)).w (by decide)).w (by decide)).w (by decide)) (((((Ag.rf.wa (by decide)).wa (by decide)).wa (by decide)).wa (by decide)).w (by decide)), Rs_of hs ((((Ag.rf.w (by decide)).w (by decide)).w (by decide)).w (by decide)) (((((Ag.rf.wa (by decide)).wa (by decide)).wa (by decide)).wa (by decide)).w (by decide)), ?_, hN⟩
  · obtain ⟨o1, o2, o3⟩ := ho
    unfold Ro
    simp (disch := first | decide | assumption | omega) only [xu_s, xu_f, xu_a, xu_o, xu_k, fill_a, fill_in, fill_out]
    refine ⟨trivial, ⟨by omega, by omega⟩, ?_⟩
    intro j hj
    obtain ⟨p1, p2, p3⟩ := o3 j hj
    by_cases e : j = (mt 0 56 0).toNatClampNeg
    · subst e
      simp (disch := first | decide | assumption | omega) only [xu_s, xu_f, xu_a, xu_o, xu_k, fill_a, fill_in, fill_out]
      exact ⟨fun _ => ⟨trivial, hc0, trivial, trivial, p2 (by omega), Or.inl trivial⟩, fun z => absurd (show ((mt 0 56 0).toNatClampNeg : Int) < (mt 0 56 0 + 1).toInt by omega) z, p3⟩
    · simp (disch := first | decide | assumption | omega) only [xu_s, xu_f, xu_a, xu_o, xu_k, fill_a, fill_in, fill_out]
      exact ⟨fun z => p1 (by omega), fun z => p2 (by omega), p3⟩
  · intro j hj
    simp (disch := first | decide | assumption | omega) only [xu_s, xu_f, xu_a, xu_o, xu_k, fill_a, fill_in, fill_out] at hj ⊢
    obtain ⟨m1, m2, m3, m4, m5, m6⟩ := hm j hj
    exact ⟨m1, m2, m3, m4, fun z => ⟨(m5 z).1, by have := (m5 z).2; omega⟩, m6⟩
theorem eq_order (h : RR n st mt) (hz : Rz mt) (hb9 : n + 100 < 2147483647) {a1 a2 a3 a4 : Int32} : OkT n 1 (f_BN_order st a1 a2 a3 a4) (f_MO_order mt a1 a2 a3 a4) := by
  unfold f_BN_order f_MO_order
  by_cases e0 : f_BN_isController a1 = 0
  · rw [if_pos e0, if_pos (show f_MO_isController a1 = 0 from e0)]
    exact OkT.no h hz (by decide) (by decide)
  · rw [if_neg e0, if_neg (show ¬ f_MO_isController a1 = 0 from e0), h.settable]
    by_cases e1 : f_MO_isAt mt a2 2 = 0
    · rw [if_pos e1, if_pos e1, if_pos rfl]
      exact OkT.no h hz (by decide) (by decide)
    · rw [if_neg e1, if_neg e1]
      obtain ⟨hd8, hst⟩ := at_in e1
      have e2 : ¬ f_MO_isDevice a2 = 0 := fun z => e1 (by unfold f_MO_isAt; rw [if_pos z])
      rw [if_neg e2]
      by_cases e3 : bz (mt 8 a2.toNatClampNeg 0) = 0
      · rw [if_pos e3, if_pos e3, if_pos rfl]
        exact OkT.no h hz (by decide) (by decide)
      · rw [if_neg e3, if_neg e3, if_neg (by decide)]
        have ho := h.2.2.2.2.2.2.2.2.2.2.2.2.1
        have h100 : (100 : Int32).toInt = 100 := by decide
        rw [ho.1]
        by_cases e4 : mt 0 56 0 = 100
        · rw [if_pos e4, if_neg (fun z => by rw [e4] at z; exact absurd z (by decide))]
          exact OkT.no h hz (by decide) (by decide)
        · have hlt : (mt 0 56 0).toInt < 100 := by
            have h1 := ho.2.1.2
            have h2 : (mt 0 56 0).toInt ≠ 100 := fun z => e4 (i32_ext (z.trans h100.symm))
            omega
          rw [if_neg e4, if_pos (i32_lt.mpr (by rw [h100]; exact hlt))]
          have hinc := i32_inc ho.2.1.1 (by omega)
          have h1 : mt 0 56 0 + 1 - 1 = mt 0 56 0 := Int32.add_sub_cancel _ _
          rw [h1]
          have h' := h.th (v := 0)
          have h2 := order_R h' (a3 := a3) (a4 := a4) (ctrl_in e0) (by simp (disch := first | decide | assumption | omega) only [xu_s, xu_f, xu_a, xu_o, xu_k, fill_a, fill_in, fill_out]; exact hlt)
          simp (disch := first | decide | assumption | omega) only [xu_s, xu_f, xu_a, xu_o, xu_k, fill_a, fill_in, fill_out] at h2
          have h3 := send_R (kd := 5) (d := a2) (pt := mt 0 56 0) (v := 0) (t := 0) (t' := 0) (w := 0) h2 (by omega) hd8 (by decide) (by simp (disch := first | decide | assumption | omega) only [xu_s, xu_f, xu_a, xu_o, xu_k, fill_a, fill_in, fill_out]; exact hst) (fun z => absurd z (by decide)) (fun _ => ⟨ho.2.1.1, by simp (disch := first | decide | assumption | omega) only [xu_s, xu_f, xu_a, xu_o, xu_k, fill_a, fill_in, fill_out]; omega⟩) (fun _ => by simp (disch := first | decide | assumption | omega) only [xu_s, xu_f, xu_a, xu_o, xu_k, fill_a, fill_in, fill_out]; exact e3) (fun z => absurd z (by decide))
          have hz3 := Rz_of hz ((((((((Ag.rf (st := mt)).w (a := 0) (k := 0) (i := 0) (v := 0) (by decide)).wa (a := 51) (k := (mt 0 56 0).toNatClampNeg) (i := 0) (v := a1) (by decide)).wa (a := 52) (k := (mt 0 56 0).toNatClampNeg) (i := 0) (v := a3) (by decide)).wa (a := 53) (k := (mt 0 56 0).toNatClampNeg) (i := 0) (v := a4) (by decide)).wa (a := 54) (k := (mt 0 56 0).toNatClampNeg) (i := 0) (v := -1) (by decide)).w (a := 0) (k := 56) (i := 0) (v := mt 0 56 0 + 1) (by decide)).tr (Ag.of (fr_MO_send (a1 := 5) (a2 := a2) (a3 := mt 0 56 0) (a4 := 0) (a5 := 0)) (by decide)))
          rw [settle_id h3.ch hz3]
          refine ⟨?_, fun _ => rfl, ?_, hz3⟩
          · dsimp only
            rw [fr_MO_send (by decide) (by decide)]
            simp (disch := first | decide | assumption | omega) only [xu_s, xu_f, xu_a, xu_o, xu_k, fill_a, fill_in, fill_out]
            decide
          · dsimp only
            exact h3.mono (by omega)
end ORD
section SMP
variable {n : Nat} {st mt : XS}
theorem ms_12 {q : Nat} {v t : Int32} : f_CH_measure st q v t 12 4 q = 1 ∧ f_CH_measure st q v t 12 5 q = v ∧ f_CH_measure st q v t 12 6 q = t ∧ f_CH_measure st q v t 12 7 q = 1 := by
  unfold f_CH_measure f_AL_watch
  refine ⟨?_, ?_, ?_, ?_⟩
  all_goals (repeat' split)
  all_goals simp [xu]
theorem ms_o {q i : Nat} {v t : Int32} (h : i ≠ q) (a k : Nat) : f_CH_measure st q v t a k i = st a k i := by
  unfold f_CH_measure f_AL_watch
  repeat' split
  all_goals simp [xu, h]
theorem ms_f {q i a k : Nat} {v t : Int32} (h12 : a = 12 → k ≠ 4 ∧ k ≠ 5 ∧ k ≠ 6 ∧ k ≠ 7) (h13 : a = 13 → k ≠ 4 ∧ k ≠ 5) : f_CH_measure st q v t a k i = st a k i := by
  have h1 : ¬ (a = 12 ∧ k = 4 ∧ i = q) := fun z => (h12 z.1).1 z.2.1
  have h2 : ¬ (a = 12 ∧ k = 5 ∧ i = q) := fun z => (h12 z.1).2.1 z.2.1
  have h3 : ¬ (a = 12 ∧ k = 6 ∧ i = q) := fun z => (h12 z.1).2.2.1 z.2.1
  have h4 : ¬ (a = 12 ∧ k = 7 ∧ i = q) := fun z => (h12 z.1).2.2.2 z.2.1
  have h5 : ¬ (a = 13 ∧ k = 4 ∧ i = q) := fun z => (h13 z.1).1 z.2.1
  have h6 : ¬ (a = 13 ∧ k = 5 ∧ i = q) := fun z => (h13 z.1).2 z.2.1
  unfold f_CH_measure f_AL_watch
  repeat' split
  all_goals simp only [xu_n h1, xu_n h2, xu_n h3, xu_n h4, xu_n h5, xu_n h6]
theorem ms_13 {q : Nat} {v t : Int32} : f_CH_measure st q v t 13 4 q = (if bz (st 13 0 q) = 0 then 0 else if v ≤ st 13 2 q then 0 else 1) ∧ (¬ bz (st 13 0 q) = 0 → ¬ v ≤ st 13 2 q → f_CH_measure st q v t 13 5 q = if bz (st 13 4 q) = 0 then t else st 13 5 q) := by
  unfold f_CH_measure f_AL_watch
  simp (disch := first | decide | assumption | omega) only [xu_s, xu_f, xu_a, xu_o, xu_k, fill_a, fill_in, fill_out]
  by_cases h1 : bz (st 13 0 q) = 0
  · simp [h1, xu]
  · by_cases h2 : v ≤ st 13 2 q
    · simp [h1, h2, xu]
    · by_cases h3 : bz (st 13 4 q) = 0
      · simp [h1, h2, h3, xu]
      · simp [h1, h2, h3, xu]
theorem sendValue_eq {S : XS} {a1 a2 : Int32} : f_BN_sendValue S a1 a2 = f_PO_send (xu S 12 8 (20 * a1.toNatClampNeg + 4 * a2.toNatClampNeg) (S 0 8 0)) 1 a1 a2 (xu S 12 8 (20 * a1.toNatClampNeg + 4 * a2.toNatClampNeg) (S 0 8 0) 8 4 a1.toNatClampNeg) (S 12 5 (20 * a1.toNatClampNeg + 4 * a2.toNatClampNeg)) (S 12 6 (20 * a1.toNatClampNeg + 4 * a2.toNatClampNeg)) (S 8 6 a1.toNatClampNeg) := by
  unfold f_BN_sendValue
  rw [po_comm (by decide) (by decide) (by decide), xu_a (by decide)]
/-- a value goes out -/
theorem sendValue_R {S M : XS} {a1 a2 : Int32} (hd8 : vp_in a1 8) (hc : vp_in a2 4) (h : RR n (xu S 12 8 (20 * a1.toNatClampNeg + 4 * a2.toNatClampNeg) (S 0 8 0)) (xu M 27 (4 * a1.toNatClampNeg + a2.toNatClampNeg) 0 (M 0 1 0))) (hb9 : n < 2147483647) (hst : M 2 a1.toNatClampNeg 0 = 2) (hch : (a2.toNatClampNeg : Int) < (M 5 a1.toNatClampNeg 0).toInt) (e5 : S 12 5 (20 * a1.toNatClampNeg + 4 * a2.toNatClampNeg) = M 25 (4 * a1.toNatClampNeg + a2.toNatClampNeg) 0) (e6 : S 12 6 (20 * a1.toNatClampNeg + 4 * a2.toNatClampNeg) = M 26 (4 * a1.toNatClampNeg + a2.toNatClampNeg) 0) (e8 : S 8 6 a1.toNatClampNeg = M 6 a1.toNatClampNeg 0) : RR (n + 1) (f_BN_sendValue S a1 a2) (f_MO_sendValue M a1 a2) := by
  have hci := vp_in_iff.mp hc
  have hcn := i32_nat hci.1
  rw [sendValue_eq]
  unfold f_MO_sendValue
  rw [t4 hd8 hc, ← e5, ← e6]
  exact send_R (kd := 1) (d := a1) (pt := a2) h hb9 hd8 (by decide) (by simp (disch := first | decide | assumption | omega) only [xu_s, xu_f, xu_a, xu_o, xu_k, fill_a, fill_in, fill_out]; exact hst) (fun _ => ⟨hci.1, by simp (disch := first | decide | assumption | omega) only [xu_s, xu_f, xu_a, xu_o, xu_k, fill_a, fill_in, fill_out]; omega⟩) (fun z => absurd z (by decide)) (fun z => absurd z (by decide)) (fun _ => ⟨rfl, by simp (disch := first | decide | assumption | omega) only [xu_s, xu_f, xu_a, xu_o, xu_k, fill_a, fill_in, fill_out]; exact e8⟩)
theorem measure_R (h : RR n st mt) {d c : Nat} (hd8 : d < 8) (hc4 : c < 4) (hst : mt 2 d 0 = 2) (ht6 : ¬ mt 6 d 0 = 0) (hch : (c : Int) < (mt 5 d 0).toInt) {v w : Int32} (hw9 : ¬ mt 20 (4 * d + c) 0 = 0 → w = if bz (mt 23 (4 * d + c) 0) = 0 then mt 0 1 0 else if mt 25 (4 * d + c) 0 ≤ mt 21 (4 * d + c) 0 then mt 0 1 0 else mt 28 (4 * d + c) 0) :
    RR n (xu (f_CH_measure st (20 * d + 4 * c) v (mt 0 1 0)) 12 8 (20 * d + 4 * c) (mt 0 1 0)) (xu (xu (xu (xu (xu (xu mt 23 (4 * d + c) 0 1) 24 (4 * d + c) 0 1) 25 (4 * d + c) 0 v) 26 (4 * d + c) 0 (mt 0 1 0)) 28 (4 * d + c) 0 w) 27 (4 * d + c) 0 (mt 0 1 0)) := by
  obtain ⟨ha, hb, hd, hn, ht, hc, hq, hv, hw, hl, hk, hi, ho, hp, hs, hm, hN⟩ := h
  obtain ⟨z4, z5, z6, z7⟩ := ms_12 (st := st) (q := 20 * d + 4 * c) (v := v) (t := mt 0 1 0)
  obtain ⟨y4, y5⟩ := ms_13 (st := st) (q := 20 * d + 4 * c) (v := v) (t := mt 0 1 0)
  refine ⟨Ra_of ha ((Ag.of fr_CH_measure (by decide)).w (by decide)) ((((((Ag.rf.wa (by decide)).wa (by decide)).wa (by decide)).wa (by decide)).wa (by decide)).wa (by decide)), Rb_of hb ((Ag.of fr_CH_measure (by decide)).w (by decide)) ((((((Ag.rf.wa (by decide)).wa (by decide)).wa (by decide)).wa (by decide)).wa (by decide)).wa (by decide)), Rd_of hd ((Ag.of fr_CH_measure (by decide)).w (by decide)) ((((((Ag.rf.wa (by decide)).wa (by decide)).wa (by decide)).wa (by decide)).wa (by decide)).wa (by decide)), Rn_of hn ((Ag.of fr_CH_measure (by decide)).w (by decide)) ((((((Ag.rf.wa (by decide)).wa (by decide)).wa (by decide)).wa (by decide)).wa (by decide)).wa (by decide)), Rt_of ht ((Ag.of fr_CH_measure (by decide)).w (by decide)) ((((((Ag.rf.wa (by decide)).wa (by decide)).wa (by decide)).wa (by decide)).wa (by decide)).wa (by decide)), Rc_of hc ((Ag.of fr_CH_measure (by decide)).w (by decide)) ((((((Ag.rf.wa (by decide)).wa (by decide)).wa (by decide)).wa (by decide)).wa (by decide)).wa (by decide)), ?_, ?_, ?_, ?_, Rk_of hk ((Ag.of fr_CH_measure (by decide)).w (by decide)) ((((((Ag.rf.wa (by decide)).wa (by decide)).wa (by decide)).wa (by decide)).wa (by decide)).wa (by decide)), Ri_of hi ((Ag.of fr_CH_measure (by decide)).w (by decide)) ((((((Ag.rf.wa (by decide)).wa (by decide)).wa (by decide)).wa (by decide)).wa (by decide)).wa (by decide)), Ro_of ho ((Ag.of fr_CH_measure (by decide)).w (by decide)) ((((((Ag.rf.wa (by decide)).wa (by decide)).wa (by decide)).wa (by decide)).wa (by decide)).wa (by decide)), Rp_of hp ((Ag.of fr_CH_measure (by decide)).w (by decide)) ((((((Ag.rf.wa (by decide)).wa (by decide)).wa (by decide)).wa (by decide)).wa (by decide)).wa (by decide)), Rs_of hs ((Ag.of fr_CH_measure (by decide)).w (by decide)) ((((((Ag.rf.wa (by decide)).wa (by decide)).wa (by decide)).wa (by decide)).wa (by decide)).wa (by decide)), Rm_of hm ((((((Ag.rf.wa (by decide)).wa (by decide)).wa (by decide)).wa (by decide)).wa (by decide)).wa (by decide)), hN⟩
  · intro d' hd' c' hc' hno
    simp (disch := first | decide | assumption | omega) only [xu_s, xu_f, xu_a, xu_o, xu_k, fill_a, fill_in, fill_out] at hno
    have hk9 : 4 * d' + c' ≠ 4 * d + c := fun e => by
      obtain ⟨rfl, rfl⟩ : d' = d ∧ c' = c := by omega
      exact hno ⟨hst, hch⟩
    simp (disch := first | decide | assumption | omega) only [xu_s, xu_f, xu_a, xu_o, xu_k, fill_a, fill_in, fill_out]
    exact hq d' hd' c' hc' hno
  · intro d' hd' c' hc'
    by_cases e : d' = d ∧ c' = c
    · obtain ⟨rfl, rfl⟩ := e
      simp (disch := first | decide | assumption | omega) only [xu_s, xu_f, xu_a, xu_o, xu_k, fill_a, fill_in, fill_out]
      rw [z4, z5, z6]
      exact ⟨rfl, fun _ => ⟨rfl, rfl⟩⟩
    · have hq9 : 20 * d' + 4 * c' ≠ 20 * d + 4 * c := by omega
      have hk9 : 4 * d' + c' ≠ 4 * d + c := by omega
      simp (disch := first | decide | assumption | omega) only [xu_s, xu_f, xu_a, xu_o, xu_k, fill_a, fill_in, fill_out]
      simp only [ms_o hq9]
      exact hv d' hd' c' hc'
  · intro d' hd' c' hc'
    by_cases e : d' = d ∧ c' = c
    · obtain ⟨rfl, rfl⟩ := e
      simp (disch := first | decide | assumption | omega) only [xu_s, xu_f, xu_a, xu_o, xu_k, fill_a, fill_in, fill_out]
      rw [z7]
      exact ⟨fun z => absurd z ht6, fun _ _ => ⟨rfl, fun _ => ⟨by decide, trivial⟩⟩⟩
    · have hq9 : 20 * d' + 4 * c' ≠ 20 * d + 4 * c := by omega
      have hk9 : 4 * d' + c' ≠ 4 * d + c := by omega
      simp (disch := first | decide | assumption | omega) only [xu_s, xu_f, xu_a, xu_o, xu_k, fill_a, fill_in, fill_out]
      simp only [ms_o hq9]
      exact hw d' hd' c' hc'
  · intro d' hd' c' hc'
    by_cases e : d' = d ∧ c' = c
    · obtain ⟨rfl, rfl⟩ := e
      obtain ⟨l1, l2, l3, l4, l5, l6, l7⟩ := hl d' hd' c' hc'
      obtain ⟨-, -, -, -, -, c5, c6⟩ := (hc d' hd' c' hc').1 hch
      simp (disch := first | decide | assumption | omega) only [xu_s, xu_f, xu_a, xu_o, xu_k, fill_a, fill_in, fill_out]
      rw [y4, ms_f (k := 6) (by decide) (by decide), ms_f (k := 7) (by decide) (by decide), ms_f (k := 8) (by decide) (by decide), ms_f (k := 9) (by decide) (by decide)]
      refine ⟨?_, ?_, l3, l4, l5, l6, l7⟩
      · by_cases e1 : mt 20 (4 * d' + c') 0 = 0
        · rw [if_pos (c5.mpr e1)]
          exact ⟨fun z => absurd bz_0 z, fun z => absurd e1 z.1⟩
        · rw [if_neg (fun z => e1 (c5.mp z)), (c6 e1).2.1]
          by_cases e2 : v ≤ mt 21 (4 * d' + c') 0
          · rw [if_pos e2]
            exact ⟨fun z => absurd bz_0 z, fun z => absurd e2 z.2.2⟩
          · rw [if_neg e2]
            exact ⟨fun _ => ⟨e1, by decide, e2⟩, fun _ => by decide⟩
      · intro z
        by_cases e1 : mt 20 (4 * d' + c') 0 = 0
        · rw [if_pos (c5.mpr e1)] at z
          exact absurd bz_0 z
        · have e3 := fun y => e1 (c5.mp y)
          rw [if_neg e3] at z
          by_cases e2 : v ≤ st 13 2 (20 * d' + 4 * c')
          · rw [if_pos e2] at z
            exact absurd bz_0 z
          · rw [y5 e3 e2, hw9 e1]
            by_cases e4 : bz (st 13 4 (20 * d' + 4 * c')) = 0
            · rw [if_pos e4]
              by_cases e5 : bz (mt 23 (4 * d' + c') 0) = 0
              · rw [if_pos e5]
                exact ⟨rfl, ha.2.1⟩
              · rw [if_neg e5]
                by_cases e6 : mt 25 (4 * d' + c') 0 ≤ mt 21 (4 * d' + c') 0
                · rw [if_pos e6]
                  exact ⟨rfl, ha.2.1⟩
                · exact absurd e4 (l1.mpr ⟨e1, e5, e6⟩)
            · have := l1.mp e4
              rw [if_neg e4, if_neg this.2.1, if_neg this.2.2]
              exact l2 e4
    · have hq9 : 20 * d' + 4 * c' ≠ 20 * d + 4 * c := by omega
      have hk9 : 4 * d' + c' ≠ 4 * d + c := by omega
      simp (disch := first | decide | assumption | omega) only [xu_s, xu_f, xu_a, xu_o, xu_k, fill_a, fill_in, fill_out]
      simp only [ms_o hq9]
      exact hl d' hd' c' hc'
theorem eq_sample (h : RR n st mt) (hz : Rz mt) (hb9 : n + 100 < 2147483647) {a1 a2 a3 : Int32} : Ok n (f_BN_sample st a1 a2 a3) (f_MO_sample mt a1 a2 a3) := by
  have h' := h.th (v := 0)
  unfold f_BN_sample f_MO_sample
  rw [h'.sealed]
  by_cases e1 : f_MO_isAt (xu mt 0 0 0 0) a1 2 = 0
  · rw [if_pos e1, if_pos e1]
    exact Ok.no h hz
  · rw [if_neg e1, if_neg e1]
    obtain ⟨hd8, hst⟩ := at_in e1
    have hd := h.2.2.1 _ (xin_lt hd8)
    rw [hd.2.2.2.2.1]
    by_cases e2 : mt 6 a1.toNatClampNeg 0 = 0
    · rw [if_pos e2, if_pos e2]
      exact Ok.no h hz
    · rw [if_neg e2, if_neg e2, h'.chan hd8]
      by_cases e3 : f_MO_isChannel (xu mt 0 0 0 0) a1 a2 = 0
      · rw [if_pos e3, if_pos e3]
        exact Ok.no h hz
      · rw [if_neg e3, if_neg e3]
        obtain ⟨-, hc1, hc2⟩ := chan_in e3
        have h5 := h'.ch _ (xin_lt hd8)
        have hc : vp_in a2 4 := vp_in_iff.mpr ⟨hc1, by omega⟩
        have hcn := i32_nat hc1
        have hc3 : (a2.toNatClampNeg : Int) < (xu mt 0 0 0 0 5 a1.toNatClampNeg 0).toInt := by omega
        have hc4 : (a2.toNatClampNeg : Int) < (mt 5 a1.toNatClampNeg 0).toInt := by
          rw [show xu mt 0 0 0 0 5 a1.toNatClampNeg 0 = mt 5 a1.toNatClampNeg 0 from xu_a (by decide)] at hc2
          omega
        obtain ⟨-, r0, r1, r2, r3, -, -⟩ := (h.2.2.2.2.2.1 _ (xin_lt hd8) _ (xin_lt hc)).1 hc4
        rw [t4 hd8 hc, fits_eq r0 r1 r2 r3]
        by_cases e5 : f_MO_fits a3 (mt 17 (4 * a1.toNatClampNeg + a2.toNatClampNeg) 0) (mt 18 (4 * a1.toNatClampNeg + a2.toNatClampNeg) 0) (mt 19 (4 * a1.toNatClampNeg + a2.toNatClampNeg) 0) = 0
        · rw [if_pos e5, if_pos e5]
          exact Ok.no h hz
        · rw [if_neg e5, if_neg e5, h.1.1]
          have hmain : ∀ w : Int32, (¬ mt 20 (4 * a1.toNatClampNeg + a2.toNatClampNeg) 0 = 0 → w = if bz (mt 23 (4 * a1.toNatClampNeg + a2.toNatClampNeg) 0) = 0 then mt 0 1 0 else if mt 25 (4 * a1.toNatClampNeg + a2.toNatClampNeg) 0 ≤ mt 21 (4 * a1.toNatClampNeg + a2.toNatClampNeg) 0 then mt 0 1 0 else mt 28 (4 * a1.toNatClampNeg + a2.toNatClampNeg) 0) → Ok n (f_BN_settleAlarms (f_BN_sendValue (f_CH_measure st (20 * a1.toNatClampNeg + 4 * a2.toNatClampNeg) a3 (mt 0 1 0)) a1 a2), 1) (f_MO_settle (f_MO_sendValue (xu (xu (xu (xu (xu (xu mt 0 0 0 0) 23 (4 * a1.toNatClampNeg + a2.toNatClampNeg) 0 1) 24 (4 * a1.toNatClampNeg + a2.toNatClampNeg) 0 1) 25 (4 * a1.toNatClampNeg + a2.toNatClampNeg) 0 a3) 26 (4 * a1.toNatClampNeg + a2.toNatClampNeg) 0 (mt 0 1 0)) 28 (4 * a1.toNatClampNeg + a2.toNatClampNeg) 0 w) a1 a2), 1) := by
            intro w hw9
            obtain ⟨z4, z5, z6, z7⟩ := ms_12 (st := st) (q := 20 * a1.toNatClampNeg + 4 * a2.toNatClampNeg) (v := a3) (t := mt 0 1 0)
            have h2 := measure_R h' (xin_lt hd8) (xin_lt hc) hst (by simp (disch := first | decide | assumption | omega) only [xu_s, xu_f, xu_a, xu_o, xu_k, fill_a, fill_in, fill_out]; exact e2) hc3 (v := a3) (w := w) (by simp (disch := first | decide | assumption | omega) only [xu_s, xu_f, xu_a, xu_o, xu_k, fill_a, fill_in, fill_out]; exact hw9)
            rw [show xu mt 0 0 0 0 0 1 0 = mt 0 1 0 from xu_f (by decide)] at h2
            have h3 := sendValue_R (S := f_CH_measure st (20 * a1.toNatClampNeg + 4 * a2.toNatClampNeg) a3 (mt 0 1 0)) (M := xu (xu (xu (xu (xu (xu mt 0 0 0 0) 23 (4 * a1.toNatClampNeg + a2.toNatClampNeg) 0 1) 24 (4 * a1.toNatClampNeg + a2.toNatClampNeg) 0 1) 25 (4 * a1.toNatClampNeg + a2.toNatClampNeg) 0 a3) 26 (4 * a1.toNatClampNeg + a2.toNatClampNeg) 0 (mt 0 1 0)) 28 (4 * a1.toNatClampNeg + a2.toNatClampNeg) 0 w) hd8 hc (n := n) (by
                rw [ms_f (a := 0) (k := 8) (i := 0) (by decide) (by decide), h.1.1]
                simp (disch := first | decide | assumption | omega) only [xu_s, xu_f, xu_a, xu_o, xu_k, fill_a, fill_in, fill_out]
                exact h2) (by omega) (by simp (disch := first | decide | assumption | omega) only [xu_s, xu_f, xu_a, xu_o, xu_k, fill_a, fill_in, fill_out]; simp (disch := first | decide | assumption | omega) only [xu_s, xu_f, xu_a, xu_o, xu_k, fill_a, fill_in, fill_out] at hst; exact hst) (by simp (disch := first | decide | assumption | omega) only [xu_s, xu_f, xu_a, xu_o, xu_k, fill_a, fill_in, fill_out]; exact hc4) (by simp (disch := first | decide | assumption | omega) only [xu_s, xu_f, xu_a, xu_o, xu_k, fill_a, fill_in, fill_out]; exact z5) (by simp (disch := first | decide | assumption | omega) only [xu_s, xu_f, xu_a, xu_o, xu_k, fill_a, fill_in, fill_out]; exact z6) (by simp (disch := first | decide | assumption | omega) only [xu_s, xu_f, xu_a, xu_o, xu_k, fill_a, fill_in, fill_out]; rw [ms_f (by decide) (by decide)]; exact hd.2.2.2.2.1)
            obtain ⟨h4, hz4⟩ := settle_R h3 (by omega)
            refine ⟨rfl, ?_, ?_⟩
            · dsimp only
              exact h4.mono (by omega)
            · dsimp only
              exact hz4
          unfold f_MO_isAbove
          simp (disch := first | decide | assumption | omega) only [xu_s, xu_f, xu_a, xu_o, xu_k, fill_a, fill_in, fill_out]
          rw [t4 hd8 hc]
          by_cases e6 : bz (mt 23 (4 * a1.toNatClampNeg + a2.toNatClampNeg) 0) = 0
          · rw [if_pos e6, if_pos rfl]
            exact hmain _ (fun _ => by rw [if_pos e6])
          · rw [if_neg e6]
            by_cases e7 : mt 25 (4 * a1.toNatClampNeg + a2.toNatClampNeg) 0 ≤ mt 21 (4 * a1.toNatClampNeg + a2.toNatClampNeg) 0
            · rw [if_pos e7, if_pos rfl]
              exact hmain _ (fun _ => by rw [if_neg e6, if_pos e7])
            · rw [if_neg e7, if_neg (by decide)]
              exact hmain _ (fun _ => by rw [if_neg e6, if_neg e7])
end SMP
