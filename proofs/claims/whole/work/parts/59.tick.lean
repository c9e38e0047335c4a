section TCK
variable {n : Nat} {st mt : XS}
theorem time_R (h : RR n st mt) {t : Int32} (h0 : 0 ≤ t.toInt) (h1 : t.toInt ≤ 1000000000) : RR n (xu st 0 8 0 t) (xu mt 0 1 0 t) := by
  obtain ⟨ha, hb, hd, hn, ht, hc, hq, hv, hw, hl, hk, hi, ho, hp, hs, hm, hN⟩ := h
  refine ⟨?_, Rb_of hb (Ag.rf.w (by decide)) (Ag.rf.w (by decide)), Rd_of hd (Ag.rf.w (by decide)) (Ag.rf.w (by decide)), Rn_of hn (Ag.rf.w (by decide)) (Ag.rf.w (by decide)), Rt_of ht (Ag.rf.w (by decide)) (Ag.rf.w (by decide)), Rc_of hc (Ag.rf.w (by decide)) (Ag.rf.w (by decide)), Rq_of hq (Ag.rf.w (by decide)), Rv_of hv (Ag.rf.w (by decide)) (Ag.rf.w (by decide)), Rw_of hw (Ag.rf.w (by decide)) (Ag.rf.w (by decide)), Rl_of hl (Ag.rf.w (by decide)) (Ag.rf.w (by decide)), Rk_of hk (Ag.rf.w (by decide)) (Ag.rf.w (by decide)), Ri_of hi (Ag.rf.w (by decide)) (Ag.rf.w (by decide)), Ro_of ho (Ag.rf.w (by decide)) (Ag.rf.w (by decide)), Rp_of hp (Ag.rf.w (by decide)) (Ag.rf.w (by decide)), Rs_of hs (Ag.rf.w (by decide)) (Ag.rf.w (by decide)), Rm_of hm (Ag.rf.w (by decide)), hN⟩
  unfold Ra
  simp (disch := first | decide | assumption | omega) only [xu_s, xu_f, xu_a, xu_o, xu_k, fill_a, fill_in, fill_out]
  exact ⟨trivial, h0, h1⟩
theorem sent_R (h : RR n st mt) {d c : Nat} (hd8 : d < 8) (hc4 : c < 4) {v : Int32} : RR n (xu st 12 8 (20 * d + 4 * c) v) (xu mt 27 (4 * d + c) 0 v) := by
  obtain ⟨ha, hb, hd, hn, ht, hc, hq, hv, hw, hl, hk, hi, ho, hp, hs, hm, hN⟩ := h
  refine ⟨Ra_of ha (Ag.rf.w (by decide)) (Ag.rf.wa (by decide)), Rb_of hb (Ag.rf.w (by decide)) (Ag.rf.wa (by decide)), Rd_of hd (Ag.rf.w (by decide)) (Ag.rf.wa (by decide)), Rn_of hn (Ag.rf.w (by decide)) (Ag.rf.wa (by decide)), Rt_of ht (Ag.rf.w (by decide)) (Ag.rf.wa (by decide)), Rc_of hc (Ag.rf.w (by decide)) (Ag.rf.wa (by decide)), Rq_of hq (Ag.rf.wa (by decide)), Rv_of hv (Ag.rf.w (by decide)) (Ag.rf.wa (by decide)), ?_, Rl_of hl (Ag.rf.w (by decide)) (Ag.rf.wa (by decide)), Rk_of hk (Ag.rf.w (by decide)) (Ag.rf.wa (by decide)), Ri_of hi (Ag.rf.w (by decide)) (Ag.rf.wa (by decide)), Ro_of ho (Ag.rf.w (by decide)) (Ag.rf.wa (by decide)), Rp_of hp (Ag.rf.w (by decide)) (Ag.rf.wa (by decide)), Rs_of hs (Ag.rf.w (by decide)) (Ag.rf.wa (by decide)), Rm_of hm (Ag.rf.wa (by decide)), hN⟩
  intro d' hd' c' hc'
  have h0 := hw d' hd' c' hc'
  by_cases e : d' = d ∧ c' = c
  · obtain ⟨rfl, rfl⟩ := e
    simp (disch := first | decide | assumption | omega) only [xu_s, xu_f, xu_a, xu_o, xu_k, fill_a, fill_in, fill_out]
    exact ⟨h0.1, fun z1 z2 => ⟨(h0.2 z1 z2).1, fun z3 => ⟨((h0.2 z1 z2).2 z3).1, trivial⟩⟩⟩
  · have hq9 : 20 * d' + 4 * c' ≠ 20 * d + 4 * c := by omega
    have hk9 : 4 * d' + c' ≠ 4 * d + c := by omega
    simp (disch := first | decide | assumption | omega) only [xu_s, xu_f, xu_a, xu_o, xu_k, fill_a, fill_in, fill_out]
    exact h0
theorem told_R (h : RR n st mt) {d : Nat} {v : Int32} : RR n (xu st 8 8 d v) (xu mt 35 d 0 v) := by
  obtain ⟨ha, hb, hd, hn, ht, hc, hq, hv, hw, hl, hk, hi, ho, hp, hs, hm, hN⟩ := h
  refine ⟨Ra_of ha (Ag.rf.w (by decide)) (Ag.rf.wa (by decide)), Rb_of hb (Ag.rf.w (by decide)) (Ag.rf.wa (by decide)), Rd_of hd (Ag.rf.w (by decide)) (Ag.rf.wa (by decide)), ?_, Rt_of ht (Ag.rf.w (by decide)) (Ag.rf.wa (by decide)), Rc_of hc (Ag.rf.w (by decide)) (Ag.rf.wa (by decide)), Rq_of hq (Ag.rf.wa (by decide)), Rv_of hv (Ag.rf.w (by decide)) (Ag.rf.wa (by decide)), Rw_of hw (Ag.rf.w (by decide)) (Ag.rf.wa (by decide)), Rl_of hl (Ag.rf.w (by decide)) (Ag.rf.wa (by decide)), Rk_of hk (Ag.rf.w (by decide)) (Ag.rf.wa (by decide)), Ri_of hi (Ag.rf.w (by decide)) (Ag.rf.wa (by decide)), Ro_of ho (Ag.rf.w (by decide)) (Ag.rf.wa (by decide)), Rp_of hp (Ag.rf.w (by decide)) (Ag.rf.wa (by decide)), Rs_of hs (Ag.rf.w (by decide)) (Ag.rf.wa (by decide)), Rm_of hm (Ag.rf.wa (by decide)), hN⟩
  intro d' hd'
  have h0 := hn d' hd'
  by_cases e : d' = d
  · subst e
    simp (disch := first | decide | assumption | omega) only [xu_s, xu_f, xu_a, xu_o, xu_k, fill_a, fill_in, fill_out]
    exact ⟨h0.1, Or.inl rfl⟩
  · simp (disch := first | decide | assumption | omega) only [xu_s, xu_f, xu_a, xu_o, xu_k, fill_a, fill_in, fill_out]
    exact h0
theorem sendSounds_R (h : RR n st mt) (hb9 : n < 2147483647) {a1 : Int32} (hd8 : vp_in a1 8) (hst : mt 2 a1.toNatClampNeg 0 = 2) : RR (n + 1) (f_BN_sendSounds st a1) (f_MO_sendSounds mt a1) := by
  have h2 := told_R h (d := a1.toNatClampNeg) (v := mt 0 1 0)
  unfold f_BN_sendSounds f_BN_send f_MO_sendSounds
  rw [← po_comm (by decide) (by decide) (by decide), h.1.1]
  have h3 := send_R (kd := 3) (d := a1) (pt := 0) (v := 0) (t := 0) (t' := 0) (w := 0) h2 hb9 hd8 (by decide) (by simp (disch := first | decide | assumption | omega) only [xu_s, xu_f, xu_a, xu_o, xu_k, fill_a, fill_in, fill_out]; exact hst) (fun z => absurd z (by decide)) (fun z => absurd z (by decide)) (fun z => absurd z (by decide)) (fun z => absurd z (by decide))
  rw [show xu st 8 8 a1.toNatClampNeg (mt 0 1 0) 8 4 a1.toNatClampNeg = st 8 4 a1.toNatClampNeg from xu_f (by decide)] at h3
  exact h3
theorem rv_in {x1 a1 y : Int32} (hx1 : vp_in x1 8) : ∀ (m : Nat) (S M : XS) (x2 : Int32) (n : Nat), RR n S M → lpi 4 m x2 → ¬ M 6 x1.toNatClampNeg 0 = 0 → n + m < 2147483647 → RR (n + m) (g_BN_repeatValues_10 m S x1 x2) (g_MO_tick_67 m M a1 y x1 x2) := by
  intro m
  induction m with
  | zero => intro S M x2 n h hx; exact absurd hx lpi_no
  | succ m ih =>
    intro S M x2 n h hx ht hb9
    have d8 := xin_lt hx1
    have hd := h.2.2.1 _ d8
    have hx2n := i32_nat hx.1
    rw [g_BN_repeatValues_10, g_MO_tick_67, hd.2.2.2.1, hd.2.2.2.2.1]
    by_cases hcc : M 5 x1.toNatClampNeg 0 ≤ x2
    · rw [if_pos hcc, if_pos hcc]
      exact h.mono (by omega)
    · have hlt := i32_nle hcc
      have h4 : x2.toInt < (4 : Nat) := by have := hd.2.2.2.2.2.1.2; omega
      have hx2 : vp_in x2 4 := vp_in_iff.mpr ⟨hx.1, h4⟩
      have c4 := xin_lt hx2
      have hch : (x2.toNatClampNeg : Int) < (M 5 x1.toNatClampNeg 0).toInt := by omega
      have hw := (h.2.2.2.2.2.2.2.2.1 _ d8 _ c4).2 ht hch
      have hnx := lpi_nx hx h4 (by decide)
      rw [if_neg hcc, if_neg hcc, if_neg ht, if_neg ht, t4 hx1 hx2, hw.1, h.1.1]
      rw [show n + (m + 1) = n + 1 + m by omega]
      by_cases e1 : bz (M 24 (4 * x1.toNatClampNeg + x2.toNatClampNeg) 0) = 0
      · rw [if_pos e1, if_pos e1]
        exact ih _ _ _ _ (h.mono (by omega)) hnx ht (by omega)
      · rw [if_neg e1, if_neg e1, (hw.2 e1).2]
        by_cases e2 : M 0 1 0 - M 27 (4 * x1.toNatClampNeg + x2.toNatClampNeg) 0 < 1000
        · rw [if_pos e2, if_pos e2]
          exact ih _ _ _ _ (h.mono (by omega)) hnx ht (by omega)
        · rw [if_neg e2, if_neg e2]
          have hst := hd.2.2.2.2.2.2.2.2 ht
          have hv := (h.2.2.2.2.2.2.2.1 _ d8 _ c4).2 (hw.2 e1).1
          have h2 := sent_R h d8 c4 (v := M 0 1 0)
          have h3 := sendValue_R hx1 hx2 (S := S) (M := M) (n := n) (by rw [h.1.1]; exact h2) (by omega) hst hch hv.1 hv.2 hd.2.2.2.2.1
          exact ih _ _ _ _ h3 hnx (by rw [fr_MO_sendValue (by simp) (by decide)]; exact ht) (by omega)
theorem rv_no {x1 : Int32} (ht : st 8 6 x1.toNatClampNeg = 0) : ∀ (m : Nat) (x2 : Int32), g_BN_repeatValues_10 m st x1 x2 = st := by
  intro m
  induction m with
  | zero => intro x2; rfl
  | succ m ih =>
    intro x2
    rw [g_BN_repeatValues_10, if_pos ht]
    split
    · rfl
    · exact ih _
theorem rv_out {a1 y : Int32} : ∀ (m : Nat) (S M : XS) (x1 : Int32) (n : Nat), RR n S M → lpi 8 m x1 → n + 5 * m < 2147483647 → RR (n + 5 * m) (g_BN_repeatValues_2 m S x1) (g_MO_tick_58 m M a1 y x1) := by
  intro m
  induction m with
  | zero => intro S M x1 n h hx; exact absurd hx lpi_no
  | succ m ih =>
    intro S M x1 n h hx hb9
    rw [g_BN_repeatValues_2, g_MO_tick_58]
    by_cases hcc : 8 ≤ x1
    · rw [if_pos hcc, if_pos hcc]
      exact h.mono (by omega)
    · rw [if_neg hcc, if_neg hcc]
      have hlt := lpi_c hx hcc i32_8
      have hx1 : vp_in x1 8 := lpi_ix hx hlt (by decide)
      have hnx := lpi_nx hx hlt (by decide)
      rw [show n + 5 * (m + 1) = n + 5 + 5 * m by omega]
      by_cases ht : M 6 x1.toNatClampNeg 0 = 0
      · have hd := h.2.2.1 _ (xin_lt hx1)
        rw [rv_no (by rw [hd.2.2.2.2.1]; exact ht)]
        have e0 : g_MO_tick_67 5 M a1 y x1 0 = M := by
          rw [g_MO_tick_67, if_pos ht]
          split
          · rfl
          · rfl
        rw [e0]
        exact ih _ _ _ _ (h.mono (by omega)) hnx (by omega)
      · exact ih _ _ _ _ (rv_in hx1 5 S M 0 n h lpi_st ht (by omega)) hnx (by omega)
theorem kl_loop {a1 : Int32} (ha : vp_in a1 8) : ∀ (m : Nat) (c2 x3 : Int32), lpi 32 m x3 → (¬ g_MO_knowsLoud_6 m mt a1 c2 x3 = 0 ↔ ¬ c2 = 0 ∨ ∃ k, x3.toNatClampNeg ≤ k ∧ k < 4 * a1.toNatClampNeg + 4 ∧ mt 33 k 0 = 2) := by
  intro m
  induction m with
  | zero => intro c2 x3 hx; exact absurd hx lpi_no
  | succ m ih =>
    intro c2 x3 hx
    have e4 := q4e ha
    obtain ⟨h1, h2⟩ := vp_in_iff.mp ha
    have e3 := i32_nat h1
    have ex := i32_nat hx.1
    rw [g_MO_knowsLoud_6]
    by_cases hcc : ((4 * a1) + 4) ≤ x3
    · rw [if_pos hcc]
      have := i32_le.mp hcc
      refine ⟨Or.inl, fun z => z.elim id (fun ⟨k, k1, k2, _⟩ => by omega)⟩
    · have hlt := i32_nle hcc
      have hnx := lpi_nx hx (by omega) (by decide)
      have hi := inc_n hx.1 (by omega)
      rw [if_neg hcc]
      by_cases hc : c2 = 0
      · rw [if_pos hc]
        by_cases e : mt 33 x3.toNatClampNeg 0 = 2
        · rw [if_pos e, ih _ _ hnx]
          exact ⟨fun _ => Or.inr ⟨_, Nat.le_refl _, by omega, e⟩, fun _ => Or.inl (by decide)⟩
        · rw [if_neg e, ih _ _ hnx, hi]
          constructor
          · rintro (z | ⟨k, k1, k2, k3⟩)
            · exact absurd rfl z
            · exact Or.inr ⟨k, by omega, k2, k3⟩
          · rintro (z | ⟨k, k1, k2, k3⟩)
            · exact absurd hc z
            · refine Or.inr ⟨k, ?_, k2, k3⟩
              have : k ≠ x3.toNatClampNeg := fun z => e (by rw [← z]; exact k3)
              omega
      · rw [if_neg hc, ih _ _ hnx]
        exact ⟨fun _ => Or.inl hc, fun _ => Or.inl (by decide)⟩
theorem kl_iff {a1 : Int32} (ha : vp_in a1 8) : ¬ f_MO_knowsLoud mt a1 = 0 ↔ ∃ c, c < 4 ∧ mt 33 (4 * a1.toNatClampNeg + c) 0 = 2 := by
  unfold f_MO_knowsLoud
  rw [kl_loop ha _ _ _ (lp4_st ha), x4n ha]
  constructor
  · rintro (z | ⟨k, k1, k2, k3⟩)
    · exact absurd rfl z
    · exact ⟨k - 4 * a1.toNatClampNeg, by omega, by rw [show 4 * a1.toNatClampNeg + (k - 4 * a1.toNatClampNeg) = k by omega]; exact k3⟩
  · rintro ⟨c, c1, c2⟩
    exact Or.inr ⟨_, by omega, by omega, c2⟩
theorem sa_loop {d : Nat} (h5 : (st 8 5 d).toInt ≤ (4 : Nat)) : ∀ (m : Nat) (x1 : Int32), lpi 4 m x1 → (¬ g_DE_soundsAtStation_2 m st d x1 = 0 ↔ ∃ c, x1.toNatClampNeg ≤ c ∧ c < 4 ∧ (c : Int) < (st 8 5 d).toInt ∧ ¬ f_KN_sounds st (20 * d + 4 * c) = 0) := by
  intro m
  induction m with
  | zero => intro x1 hx; exact absurd hx lpi_no
  | succ m ih =>
    intro x1 hx
    have ex := i32_nat hx.1
    rw [g_DE_soundsAtStation_2]
    by_cases hcc : st 8 5 d ≤ x1
    · rw [if_pos hcc]
      have := i32_le.mp hcc
      exact ⟨fun z => absurd rfl z, fun ⟨c, c1, c2, c3, _⟩ => by omega⟩
    · have hlt := i32_nle hcc
      have hnx := lpi_nx hx (by omega) (by decide)
      have hi := inc_n hx.1 (by omega)
      rw [if_neg hcc]
      by_cases e : f_KN_sounds st (20 * d + 4 * x1.toNatClampNeg) = 0
      · rw [if_pos e, ih _ hnx, hi]
        constructor
        · rintro ⟨c, c1, c2, c3, c4⟩
          exact ⟨c, by omega, c2, c3, c4⟩
        · rintro ⟨c, c1, c2, c3, c4⟩
          refine ⟨c, ?_, c2, c3, c4⟩
          have : c ≠ x1.toNatClampNeg := fun z => c4 (by rw [z]; exact e)
          omega
      · rw [if_neg e]
        exact ⟨fun _ => ⟨_, Nat.le_refl _, by omega, by omega, e⟩, fun _ => by decide⟩
theorem loud_iff (h : RR n st mt) {a1 : Int32} (ha : vp_in a1 8) : f_DE_soundsAtStation st a1.toNatClampNeg = 0 ↔ f_MO_knowsLoud mt a1 = 0 := by
  have d8 := xin_lt ha
  have hd := h.2.2.1 _ d8
  have h1 : ¬ f_DE_soundsAtStation st a1.toNatClampNeg = 0 ↔ ¬ f_MO_knowsLoud mt a1 = 0 := by
    unfold f_DE_soundsAtStation
    rw [sa_loop (by rw [hd.2.2.2.1]; exact hd.2.2.2.2.2.1.2) 5 0 lpi_st, kl_iff ha, hd.2.2.2.1]
    constructor
    · rintro ⟨c, c1, c2, c3, c4⟩
      exact ⟨c, c2, (sounds_iff h d8 c2).mp c4⟩
    · rintro ⟨c, c1, c2⟩
      exact ⟨c, by rw [show (0 : Int32).toNatClampNeg = 0 from by decide]; omega, c1, (known_ch h d8 c1 c2).2, (sounds_iff h d8 c1).mpr c2⟩
  exact ⟨fun z => Decidable.not_not.mp (fun y => h1.mpr y z), fun z => Decidable.not_not.mp (fun y => h1.mp y z)⟩
theorem loud_st (h : RR n st mt) {a1 : Int32} (ha : vp_in a1 8) (e : ¬ f_MO_knowsLoud mt a1 = 0) : mt 2 a1.toNatClampNeg 0 = 2 := by
  obtain ⟨c, c1, c2⟩ := (kl_iff ha).mp e
  exact (known_ch h (xin_lt ha) c1 c2).1
theorem rs_loop {a1 y : Int32} : ∀ (m : Nat) (S M : XS) (x1 : Int32) (n : Nat), RR n S M → Rz M → lpi 8 m x1 → n + m < 2147483647 → RR (n + m) (g_BN_repeatSounds_2 m S x1) (g_MO_tick_148 m M a1 y x1) ∧ Rz (g_MO_tick_148 m M a1 y x1) := by
  intro m
  induction m with
  | zero => intro S M x1 n h hz hx; exact absurd hx lpi_no
  | succ m ih =>
    intro S M x1 n h hz hx hb9
    rw [g_BN_repeatSounds_2, g_MO_tick_148]
    by_cases hcc : 8 ≤ x1
    · rw [if_pos hcc, if_pos hcc]
      exact ⟨h.mono (by omega), hz⟩
    · rw [if_neg hcc, if_neg hcc]
      have hlt := lpi_c hx hcc i32_8
      have hx1 : vp_in x1 8 := lpi_ix hx hlt (by decide)
      have hnx := lpi_nx hx hlt (by decide)
      rw [show n + (m + 1) = n + 1 + m by omega]
      have hl := loud_iff h hx1
      by_cases e1 : f_MO_knowsLoud M x1 = 0
      · rw [if_pos e1, if_pos (hl.mpr e1)]
        exact ih _ _ _ _ (h.mono (by omega)) hz hnx (by omega)
      · rw [if_neg e1, if_neg (fun z => e1 (hl.mp z)), h.1.1]
        have hst := loud_st h hx1 e1
        have hag := ago_le (c := 1000) h.1.2.1 h.1.2.2 (h.2.2.2.1 _ (xin_lt hx1)).2 (by decide)
        by_cases e2 : M 0 1 0 - M 35 x1.toNatClampNeg 0 < 1000
        · rw [if_pos e2, if_pos (nlt_le.mpr (fun z => nlt_le.mp e2 (hag.mp z)))]
          exact ih _ _ _ _ (h.mono (by omega)) hz hnx (by omega)
        · rw [if_neg e2, if_neg (fun z => e2 (nlt_le.mpr (fun y => nlt_le.mp z (hag.mpr y))))]
          exact ih _ _ _ _ (sendSounds_R h (by omega) hx1 hst) (Rz_of hz (Ag.of fr_MO_sendSounds (by decide))) hnx (by omega)
theorem eq_tick (h : RR n st mt) (hz : Rz mt) (hb9 : n + 100 < 2147483647) {a1 : Int32} : OkT n 1 (f_BN_tick st a1) (f_MO_tick mt a1) := by
  unfold f_BN_tick f_MO_tick
  by_cases e1 : a1 < 1
  · rw [if_pos e1, if_pos e1]
    exact OkT.no h hz (by decide) (by decide)
  · rw [if_neg e1, if_neg e1]
    by_cases e2 : 10000 < a1
    · rw [if_pos e2, if_pos e2]
      exact OkT.no h hz (by decide) (by decide)
    · rw [if_neg e2, if_neg e2]
      have b1 : 1 ≤ a1.toInt := by
        have : ¬ a1.toInt < (1 : Int32).toInt := fun z => e1 (i32_lt.mpr z)
        rw [show (1 : Int32).toInt = 1 from by decide] at this
        omega
      have b2 : a1.toInt ≤ 10000 := by
        have : ¬ (10000 : Int32).toInt < a1.toInt := fun z => e2 (i32_lt.mpr z)
        rw [show (10000 : Int32).toInt = 10000 from by decide] at this
        omega
      obtain ⟨a8, an0, an1⟩ := h.1
      have s1 : (1000000000 - a1).toInt = 1000000000 - a1.toInt := by
        rw [Int32.toInt_sub, show (1000000000 : Int32).toInt = 1000000000 from by decide, Int.bmod_eq_of_le (by omega) (by omega)]
      have s2 : (mt 0 1 0 + a1).toInt = (mt 0 1 0).toInt + a1.toInt := by
        rw [Int32.toInt_add, Int.bmod_eq_of_le (by omega) (by omega)]
      have s3 : (1000000000 : Int32).toInt = 1000000000 := by decide
      have hif : st 0 8 0 ≤ 1000000000 - a1 ↔ mt 0 1 0 + a1 ≤ 1000000000 := by
        rw [a8, i32_le, i32_le]
        omega
      by_cases e3 : mt 0 1 0 + a1 ≤ 1000000000
      · rw [if_pos e3, if_pos (hif.mpr e3)]
        have h' := h.th (v := 0)
        have hle := i32_le.mp e3
        have h2 := time_R h' (t := mt 0 1 0 + a1) (by omega) (by omega)
        rw [a8]
        unfold f_BN_repeatValues f_BN_repeatSounds
        have h3 := rv_out (a1 := a1) (y := mt 0 2 0) 9 _ _ 0 n h2 lpi_st (by omega)
        obtain ⟨h4, hz4⟩ := settle_R h3 (by omega)
        obtain ⟨h5, hz5⟩ := rs_loop (a1 := a1) (y := mt 0 2 0) 9 _ _ 0 _ h4 hz4 lpi_st (by omega)
        refine ⟨?_, ?_, ?_, ?_⟩
        · dsimp only
          rw [fr_MO_tick_148 (by decide) (by decide), fr_MO_settle (by decide) (by decide), fr_MO_tick_58 (by decide) (by decide)]
          simp (disch := first | decide | assumption | omega) only [xu_s, xu_f, xu_a, xu_o, xu_k, fill_a, fill_in, fill_out]
          decide
        · intro _
          dsimp only
          rw [h5.2.2.2.2.2.2.2.2.2.2.2.2.2.2.1.1, h.2.2.2.2.2.2.2.2.2.2.2.2.2.2.1.1]
        · dsimp only
          exact h5.mono (by omega)
        · dsimp only
          exact hz5
      · rw [if_neg e3, if_neg (fun z => e3 (hif.mp z))]
        exact OkT.no h hz (by decide) (by decide)
end TCK
