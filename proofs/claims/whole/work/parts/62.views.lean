section VWS
variable {n : Nat} {st mt : XS}
theorem il_loop {a1 : Int32} (ha : vp_in a1 8) : ∀ (m : Nat) (c2 x3 : Int32), lpi 32 m x3 → (¬ g_MO_isLoud_6 m mt a1 c2 x3 = 0 ↔ ¬ c2 = 0 ∨ ∃ k, x3.toNatClampNeg ≤ k ∧ k < 4 * a1.toNatClampNeg + 4 ∧ ¬ bz (mt 30 k 0) = 0 ∧ bz (mt 31 k 0) = 0) := by
  intro m
  induction m with
  | zero => intro c2 x3 hx; exact absurd hx lpi_no
  | succ m ih =>
    intro c2 x3 hx
    have e4 := q4e ha
    obtain ⟨h1, h2⟩ := vp_in_iff.mp ha
    have e3 := i32_nat h1
    have ex := i32_nat hx.1
    rw [g_MO_isLoud_6]
    by_cases hcc : ((4 * a1) + 4) ≤ x3
    · rw [if_pos hcc]
      have := i32_le.mp hcc
      refine ⟨Or.inl, fun z => z.elim id (fun ⟨k, k1, k2, _⟩ => by omega)⟩
    · have hlt := i32_nle hcc
      have hnx := lpi_nx hx (by omega) (by decide)
      have hi := inc_n hx.1 (by omega)
      rw [if_neg hcc]
      by_cases hc : c2 = 0
      · rw [if_pos hc]
        have hno : ¬ (¬ bz (mt 30 x3.toNatClampNeg 0) = 0 ∧ bz (mt 31 x3.toNatClampNeg 0) = 0) → ((¬ (0 : Int32) = 0 ∨ ∃ k, x3.toNatClampNeg + 1 ≤ k ∧ k < 4 * a1.toNatClampNeg + 4 ∧ ¬ bz (mt 30 k 0) = 0 ∧ bz (mt 31 k 0) = 0) ↔ (¬ c2 = 0 ∨ ∃ k, x3.toNatClampNeg ≤ k ∧ k < 4 * a1.toNatClampNeg + 4 ∧ ¬ bz (mt 30 k 0) = 0 ∧ bz (mt 31 k 0) = 0)) := by
          intro e
          constructor
          · rintro (z | ⟨k, k1, k2, k3⟩)
            · exact absurd rfl z
            · exact Or.inr ⟨k, by omega, k2, k3⟩
          · rintro (z | ⟨k, k1, k2, k3⟩)
            · exact absurd hc z
            · refine Or.inr ⟨k, ?_, k2, k3⟩
              have : k ≠ x3.toNatClampNeg := fun z => e (by rw [← z]; exact k3)
              omega
        by_cases e : bz (mt 30 x3.toNatClampNeg 0) = 0
        · rw [if_pos e, ih _ _ hnx, hi]
          exact hno (fun z => z.1 e)
        · rw [if_neg e]
          by_cases e2 : bz (mt 31 x3.toNatClampNeg 0) = 0
          · rw [if_pos e2, ih _ _ hnx]
            exact ⟨fun _ => Or.inr ⟨_, Nat.le_refl _, by omega, e, e2⟩, fun _ => Or.inl (by decide)⟩
          · rw [if_neg e2, ih _ _ hnx, hi]
            exact hno (fun z => e2 z.2)
      · rw [if_neg hc, ih _ _ hnx]
        exact ⟨fun _ => Or.inl hc, fun _ => Or.inl (by decide)⟩
theorem sl_loop {d : Nat} {a : Int32} (h5 : (st 8 5 d).toInt ≤ (4 : Nat)) : ∀ (m : Nat) (x1 : Int32), lpi 4 m x1 → (¬ g_DE_soundsAt_16 m st d a x1 = 0 ↔ ∃ c, x1.toNatClampNeg ≤ c ∧ c < 4 ∧ (c : Int) < (st 8 5 d).toInt ∧ ¬ f_AL_isLoud st (20 * d + 4 * c) = 0) := by
  intro m
  induction m with
  | zero => intro x1 hx; exact absurd hx lpi_no
  | succ m ih =>
    intro x1 hx
    have ex := i32_nat hx.1
    rw [g_DE_soundsAt_16]
    by_cases hcc : st 8 5 d ≤ x1
    · rw [if_pos hcc]
      have := i32_le.mp hcc
      exact ⟨fun z => absurd rfl z, fun ⟨c, c1, c2, c3, _⟩ => by omega⟩
    · have hlt := i32_nle hcc
      have hnx := lpi_nx hx (by omega) (by decide)
      have hi := inc_n hx.1 (by omega)
      rw [if_neg hcc]
      by_cases e : f_AL_isLoud st (20 * d + 4 * x1.toNatClampNeg) = 0
      · rw [if_pos e, ih _ hnx, hi]
        constructor
        · rintro ⟨c, c1, c2, c3, c4⟩
          exact ⟨c, by omega, c2, c3, c4⟩
        · rintro ⟨c, c1, c2, c3, c4⟩
          refine ⟨c, ?_, c2, c3, c4⟩
          have : c ≠ x1.toNatClampNeg := fun z => c4 (by rw [z]; exact e)
          omega
      · rw [if_neg e]
        exact ⟨fun _ => ⟨_, Nat.le_refl _, by omega, by omega, e⟩, fun _ => by decide⟩
theorem al_loud (h : RR n st mt) {d c : Nat} (hd8 : d < 8) (hc4 : c < 4) : ¬ f_AL_isLoud st (20 * d + 4 * c) = 0 ↔ ¬ bz (mt 30 (4 * d + c) 0) = 0 ∧ bz (mt 31 (4 * d + c) 0) = 0 := by
  obtain ⟨-, -, -, l4, l5, -, -⟩ := h.2.2.2.2.2.2.2.2.2.1 d hd8 c hc4
  unfold f_AL_isLoud
  rw [l4, l5]
  by_cases e1 : bz (mt 30 (4 * d + c) 0) = 0
  · rw [if_pos e1]
    exact ⟨fun z => absurd rfl z, fun z => absurd e1 z.1⟩
  · rw [if_neg e1]
    by_cases e2 : bz (mt 31 (4 * d + c) 0) = 0
    · rw [if_pos e2]
      exact ⟨fun _ => ⟨e1, e2⟩, fun _ => by decide⟩
    · rw [if_neg e2]
      exact ⟨fun z => absurd rfl z, fun z => absurd z.2 e2⟩
theorem isLoud_iff (h : RR n st mt) {a1 : Int32} (ha : vp_in a1 8) : f_DE_soundsAt st a1.toNatClampNeg (st 0 8 0) = 0 ↔ f_MO_isLoud mt a1 = 0 := by
  have d8 := xin_lt ha
  have hd := h.2.2.1 _ d8
  have h1 : ¬ g_DE_soundsAt_16 5 st a1.toNatClampNeg (st 0 8 0) 0 = 0 ↔ ¬ g_MO_isLoud_6 33 mt a1 0 (4 * a1) = 0 := by
    rw [sl_loop (by rw [hd.2.2.2.1]; exact hd.2.2.2.2.2.1.2) 5 0 lpi_st, il_loop ha _ _ _ (lp4_st ha), x4n ha, hd.2.2.2.1]
    constructor
    · rintro ⟨c, c1, c2, c3, c4⟩
      exact Or.inr ⟨4 * a1.toNatClampNeg + c, by omega, by omega, (al_loud h d8 c2).mp c4⟩
    · rintro (z | ⟨k, k1, k2, k3⟩)
      · exact absurd rfl z
      · obtain ⟨c, rfl⟩ : ∃ c, k = 4 * a1.toNatClampNeg + c := ⟨k - 4 * a1.toNatClampNeg, by omega⟩
        have c4 : c < 4 := by omega
        refine ⟨c, by rw [show (0 : Int32).toNatClampNeg = 0 from by decide]; omega, c4, ?_, (al_loud h d8 c4).mpr k3⟩
        exact Decidable.not_not.mp (fun z => k3.1 (h.2.2.2.2.2.2.1 _ d8 _ c4 (fun y => z y.2)).2.1)
  have hag := ago_le (c := 3000) h.1.2.1 h.1.2.2 (h.2.2.2.1 _ d8).1 (by decide)
  unfold f_DE_soundsAt f_MO_isLoud
  rw [h.1.1] at h1 ⊢
  by_cases e1 : 3000 ≤ mt 0 1 0 - mt 15 a1.toNatClampNeg 0
  · rw [if_pos (hag.mpr e1), if_neg (show ¬ mt 0 1 0 - mt 15 a1.toNatClampNeg 0 < 3000 from fun z => nlt_le.mp z e1)]
    by_cases e2 : g_MO_isLoud_6 33 mt a1 0 (4 * a1) = 0
    · rw [if_pos e2]
      exact ⟨fun _ => rfl, fun _ => Decidable.not_not.mp (fun z => h1.mp z e2)⟩
    · rw [if_neg e2]
      exact ⟨fun z => absurd z (h1.mpr e2), fun z => absurd z (by decide)⟩
  · rw [if_neg (fun z => e1 (hag.mp z)), if_pos (show mt 0 1 0 - mt 15 a1.toNatClampNeg 0 < 3000 from nlt_le.mpr e1)]
    split
    · exact ⟨fun _ => rfl, fun _ => rfl⟩
    · exact ⟨fun _ => rfl, fun _ => rfl⟩
theorem standing_eq (h : RR n st mt) {d c : Nat} (hd8 : d < 8) (hc4 : c < 4) (hch : (c : Int) < (mt 5 d 0).toInt) : f_AL_standing st (20 * d + 4 * c) = (if mt 20 (4 * d + c) 0 = 0 then 0 else if bz (mt 30 (4 * d + c) 0) = 0 then 1 else if bz (mt 31 (4 * d + c) 0) = 0 then 2 else 3) := by
  obtain ⟨-, -, -, l4, l5, -, -⟩ := h.2.2.2.2.2.2.2.2.2.1 d hd8 c hc4
  obtain ⟨-, -, -, -, -, c5, c6⟩ := (h.2.2.2.2.2.1 d hd8 c hc4).1 hch
  unfold f_AL_standing
  rw [l4, l5]
  by_cases e1 : mt 20 (4 * d + c) 0 = 0
  · rw [if_pos e1, if_pos (c5.mpr e1)]
  · rw [if_neg e1, if_neg (fun z => e1 (c5.mp z))]
theorem level_eq (h : RR n st mt) {a1 a2 : Int32} (hd8 : vp_in a1 8) (hc4 : vp_in a2 4) (hch : (a2.toNatClampNeg : Int) < (mt 5 a1.toNatClampNeg 0).toInt) : f_AL_levelAt st (20 * a1.toNatClampNeg + 4 * a2.toNatClampNeg) (st 0 8 0) = f_MO_levelOf mt (4 * a1 + a2) := by
  have hl := al_loud h (xin_lt hd8) (xin_lt hc4)
  obtain ⟨-, -, -, l4, l5, -, l7⟩ := h.2.2.2.2.2.2.2.2.2.1 _ (xin_lt hd8) _ (xin_lt hc4)
  obtain ⟨-, -, -, -, -, c5, c6⟩ := (h.2.2.2.2.2.1 _ (xin_lt hd8) _ (xin_lt hc4)).1 hch
  unfold f_AL_levelAt f_MO_levelOf
  rw [t4 hd8 hc4, h.1.1]
  by_cases e1 : bz (mt 30 (4 * a1.toNatClampNeg + a2.toNatClampNeg) 0) = 0
  · rw [if_pos e1, if_pos (Decidable.not_not.mp (fun z => (hl.mp z).1 e1))]
  · rw [if_neg e1]
    obtain ⟨p1, p2⟩ := l7 e1
    by_cases e2 : bz (mt 31 (4 * a1.toNatClampNeg + a2.toNatClampNeg) 0) = 0
    · rw [if_pos e2, if_neg (hl.mpr ⟨e1, e2⟩), (c6 p1).1, p2]
    · rw [if_neg e2, if_pos (Decidable.not_not.mp (fun z => e2 (hl.mp z).2))]
theorem kn_eq (h : RR n st mt) {d c : Nat} (hd8 : d < 8) (hc4 : c < 4) : f_KN_standing st (20 * d + 4 * c) = mt 33 (4 * d + c) 0 := by
  have hne : ∀ {x : Int32}, 0 ≤ x.toInt → ¬ x = -1 := fun z y => by rw [y] at z; exact absurd z (by decide)
  unfold f_KN_standing
  rcases h.2.2.2.2.2.2.2.2.2.2.1 d hd8 c hc4 with ⟨k0, k1, k2⟩ | ⟨k0, k1, k2, k3⟩ | ⟨k0, k1, k2, k3, k4⟩ | ⟨k0, k1, k2, k3, k4⟩
  · rw [k0, if_pos k1]
  · rw [k0, k2, if_neg (hne k3), if_pos k1]
  · rw [k0, k3, if_neg (hne k4), k1, k2]
    rfl
  · rw [k0, k3, if_neg (hne k4), k1, k2]
    rfl
theorem look_i {x : Int32} (h0 : ¬ x < 10) (h1 : ¬ 42 ≤ x) : vp_in ((x - 10) / 8) 4 := by
  have e1 : (10 : Int32).toInt = 10 := by decide
  have e2 : (42 : Int32).toInt = 42 := by decide
  refine lk_in ⟨?_, ?_⟩
  · have : ¬ x.toInt < (10 : Int32).toInt := fun z => h0 (i32_lt.mpr z)
    omega
  · have := i32_nle h1
    omega
theorem look_4 {x : Int32} (h0 : ¬ x < 10) : 4 ≤ (x - 10) / 8 ↔ 42 ≤ x := by
  have e10 : (10 : Int32).toInt = 10 := by decide
  have e42 : (42 : Int32).toInt = 42 := by decide
  have e0 : (0 : Int32).toInt = 0 := by decide
  have e4 : (4 : Int32).toInt = 4 := by decide
  have hx : ¬ x.toInt < (10 : Int32).toInt := fun z => h0 (i32_lt.mpr z)
  have hb := Int32.toInt_lt x
  have e : (x - 10).toInt = x.toInt - 10 := by
    rw [Int32.toInt_sub, e10]
    exact Int.bmod_eq_of_le (by omega) (by omega)
  have hn : ¬ (x - 10) < 0 := by rw [Int32.lt_iff_toInt_lt]; omega
  obtain ⟨j, hj, ej⟩ := nI_of hn
  rw [ej, nI_toInt hj] at e
  have e8 : (nI j / 8 : Int32) = nI (j / 8) := pk_div (d := 8) hj (by decide) (by decide)
  rw [ej, e8, i32_le, i32_le, e4, e42, nI_toInt (by omega)]
  omega
theorem eq_look (h : RR n st mt) (hz : Rz mt) {a1 a2 : Int32} : OkT n 3 (f_BN_look st a1 a2) (f_MO_look mt a1 a2) := by
  have h' := h.th (v := 0)
  unfold f_BN_look f_MO_look
  by_cases e0 : f_BN_isDevice a1 = 0
  · rw [if_pos e0, if_pos (show f_MO_isDevice a1 = 0 from e0)]
    exact OkT.no h hz (by decide) (by decide)
  · rw [if_neg e0, if_neg (show ¬ f_MO_isDevice a1 = 0 from e0)]
    have hd8 := vd_isDevice e0
    have d8 := xin_lt hd8
    obtain ⟨d2, d3, d4, d5, d6, d7, -, d9, -⟩ := h.2.2.1 _ d8
    obtain ⟨t1, t2, t3, -, -⟩ := h.2.2.2.2.1 _ d8
    by_cases e1 : a2 < 0
    · rw [if_pos e1, if_neg (show ¬ 0 ≤ a2 from nlt_le.mp e1), if_pos (show a2 < 10 from i32_lt.mpr (by have := i32_lt.mp e1; rw [show (0 : Int32).toInt = 0 from by decide] at this; rw [show (10 : Int32).toInt = 10 from by decide]; omega))]
      exact OkT.no h hz (by decide) (by decide)
    · rw [if_neg e1, if_pos (show 0 ≤ a2 from Decidable.not_not.mp (fun z => e1 (nlt_le.mpr z)))]
      by_cases e2 : a2 < 10
      · rw [if_pos e2, if_neg (show ¬ 10 ≤ a2 from nlt_le.mp e2)]
        unfold f_BN_deviceFact
        by_cases c0 : a2 = 0
        · rw [if_pos c0, if_pos c0]
          exact OkT.yes h hz d2
        · rw [if_neg c0, if_neg c0]
          by_cases c1 : a2 = 1
          · rw [if_pos c1, if_pos c1]
            by_cases z : mt 2 a1.toNatClampNeg 0 = 0
            · rw [if_pos z]
              exact OkT.yes h hz (d3.trans (d9 z))
            · rw [if_neg z]
              exact OkT.yes h hz d3
          · rw [if_neg c1, if_neg c1]
            by_cases c2 : a2 = 2
            · rw [if_pos c2, if_pos c2]
              exact OkT.yes h hz d4
            · rw [if_neg c2, if_neg c2]
              by_cases c3 : a2 = 3
              · rw [if_pos c3, if_pos c3]
                exact OkT.yes h hz d5
              · rw [if_neg c3, if_neg c3]
                by_cases c4 : a2 = 4
                · rw [if_pos c4, if_pos c4]
                  exact OkT.yes h hz d6
                · rw [if_neg c4, if_neg c4]
                  by_cases c5 : a2 = 5
                  · have hl := isLoud_iff h' hd8
                    rw [if_pos c5, if_pos c5]
                    by_cases z : f_MO_isLoud (xu mt 0 0 0 0) a1 = 0
                    · rw [if_pos z, if_pos (hl.mpr z)]
                      exact OkT.yes h hz rfl
                    · rw [if_neg z, if_neg (fun y => z (hl.mp y))]
                      exact OkT.yes h hz rfl
                  · rw [if_neg c5, if_neg c5]
                    by_cases c6 : a2 = 6
                    · rw [if_pos c6, if_pos c6, t1]
                      by_cases z : bz (mt 8 a1.toNatClampNeg 0) = 0
                      · rw [if_pos z, if_pos z]
                        exact OkT.yes h hz rfl
                      · rw [if_neg z, if_neg z]
                        exact OkT.yes h hz t2
                    · rw [if_neg c6, if_neg c6]
                      by_cases c7 : a2 = 7
                      · rw [if_pos c7, if_pos c7, holder_eq h' hd8, show xu mt 0 0 0 0 13 a1.toNatClampNeg 0 = mt 13 a1.toNatClampNeg 0 from xu_a (by decide)]
                        by_cases z : f_MO_isLeased (xu mt 0 0 0 0) a1 = 0
                        · rw [if_pos z, if_pos z]
                          exact OkT.yes h hz rfl
                        · rw [if_neg z, if_neg z]
                          exact OkT.yes h hz rfl
                      · rw [if_neg c7, if_neg c7]
                        by_cases c8 : a2 = 8
                        · rw [if_pos c8, if_pos c8, t3]
                          by_cases z : bz (mt 7 a1.toNatClampNeg 0) = 0
                          · rw [if_pos z, if_pos z]
                            exact OkT.yes h hz rfl
                          · rw [if_neg z, if_neg z]
                            exact OkT.yes h hz rfl
                        · rw [if_neg c8, if_neg c8]
                          by_cases c9 : a2 = 9
                          · rw [if_pos c9, t1]
                            by_cases z : bz (mt 8 a1.toNatClampNeg 0) = 0
                            · rw [if_pos z, if_pos z]
                              exact OkT.yes h hz rfl
                            · rw [if_neg z, if_neg z]
                              exact OkT.yes h hz rfl
                          · exact absurd (no10 e1 e2 c0 c1 c2 c3 c4 c5 c6 c7 c8 c9) id
      · have hn : ∀ {x : Int32}, x.toInt < 10 → ¬ a2 = x := fun z y => e2 (by rw [y]; exact i32_lt.mpr (by rw [show (10 : Int32).toInt = 10 from by decide]; exact z))
        rw [if_neg e2, if_pos (show 10 ≤ a2 from Decidable.not_not.mp (fun z => e2 (nlt_le.mpr z)))]
        by_cases e3 : 42 ≤ a2
        · rw [if_pos e3, if_pos ((look_4 e2).mpr e3)]
          exact OkT.no h hz (by decide) (by decide)
        · rw [if_neg e3, if_neg (fun z => e3 ((look_4 e2).mp z))]
          by_cases e4 : 5 ≤ a2 - 10 - (a2 - 10) / 8 * 8
          · rw [if_pos e4, if_neg (show ¬ a2 - 10 - (a2 - 10) / 8 * 8 < 5 from fun z => nlt_le.mp z e4)]
            exact OkT.no h hz (by decide) (by decide)
          · rw [if_neg e4, if_pos (show a2 - 10 - (a2 - 10) / 8 * 8 < 5 from nlt_le.mpr e4)]
            rw [if_neg (hn (x := 0) (by decide)), if_neg (hn (x := 1) (by decide)), if_neg (hn (x := 2) (by decide)), if_neg (hn (x := 3) (by decide)), if_neg (hn (x := 4) (by decide)), if_neg (hn (x := 5) (by decide)), if_neg (hn (x := 6) (by decide)), if_neg (hn (x := 7) (by decide)), if_neg (hn (x := 8) (by decide)), if_neg (hn (x := 9) (by decide))]
            have hc4 := look_i e2 e3
            unfold f_MO_lookChannel f_DE_hasChannel
            generalize (a2 - 10) / 8 = c at hc4 ⊢
            generalize a2 - 10 - c * 8 = f at e4 ⊢
            have c0 := (vp_in_iff.mp hc4).1
            have cn := i32_nat c0
            simp (disch := first | decide | assumption | omega) only [xu_s, xu_f, xu_a, xu_o, xu_k, fill_a, fill_in, fill_out]
            rw [d5, if_neg (now_nn c0)]
            by_cases e5 : c < mt 5 a1.toNatClampNeg 0
            · rw [if_neg (show ¬ mt 5 a1.toNatClampNeg 0 ≤ c from nlt_le.mp e5), if_neg (by decide), if_pos e5]
              have hch : (c.toNatClampNeg : Int) < (mt 5 a1.toNatClampNeg 0).toInt := by have := i32_lt.mp e5; omega
              unfold f_BN_channelFact
              rw [t4 hd8 hc4]
              obtain ⟨v1, v2⟩ := h.2.2.2.2.2.2.2.1 _ d8 _ (xin_lt hc4)
              by_cases f0 : f = 0
              · rw [if_pos f0, if_pos f0]
                exact OkT.yes h hz (standing_eq h d8 (xin_lt hc4) hch)
              · rw [if_neg f0, if_neg f0]
                by_cases f1 : f = 1
                · rw [if_pos f1, if_pos f1]
                  exact OkT.yes h hz (level_eq h' hd8 hc4 (by simp (disch := first | decide | assumption | omega) only [xu_s, xu_f, xu_a, xu_o, xu_k, fill_a, fill_in, fill_out]; exact hch))
                · rw [if_neg f1, if_neg f1, v1]
                  by_cases f2 : f = 2
                  · rw [if_pos f2, if_pos f2]
                    exact OkT.yes h hz rfl
                  · rw [if_neg f2, if_neg f2]
                    by_cases f3 : f = 3
                    · rw [if_pos f3, if_pos f3]
                      by_cases z : bz (mt 23 (4 * a1.toNatClampNeg + c.toNatClampNeg) 0) = 0
                      · rw [if_pos z, if_pos z]
                        exact OkT.yes h hz rfl
                      · rw [if_neg z, if_neg z]
                        exact OkT.yes h hz (v2 z).1
                    · rw [if_neg f3, if_neg f3]
                      exact OkT.yes h hz (kn_eq h d8 (xin_lt hc4))
            · rw [if_pos (show mt 5 a1.toNatClampNeg 0 ≤ c from Decidable.not_not.mp (fun z => e5 (nlt_le.mpr z))), if_pos rfl, if_neg e5]
              exact OkT.yes h hz rfl
end VWS
