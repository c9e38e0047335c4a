section BND
variable {n : Nat} {st mt : XS}
/-! what a place shows -/
theorem q4_div {d c : Nat} (hd : d < 8) (hc : c < 4) : (nI (4 * d + c) / 4 : Int32) = nI d ∧ nI (4 * d + c) - nI (4 * d + c) / 4 * 4 = nI c := by
  have e : (nI (4 * d + c) / 4 : Int32) = nI ((4 * d + c) / 4) := pk_div (d := 4) (by omega) (by decide) (by decide)
  have e1 : (4 * d + c) / 4 = d := by omega
  rw [e, e1]
  refine ⟨rfl, i32_ext ?_⟩
  have n1 := nI_toInt (n := 4 * d + c) (by omega)
  have n2 := nI_toInt (n := d) (by omega)
  have n3 := nI_toInt (n := c) (by omega)
  have n4 : (nI d * 4).toInt = 4 * (d : Int) := by
    rw [Int32.toInt_mul, n2, show (4 : Int32).toInt = 4 from by decide, Int.bmod_eq_of_le (by omega) (by omega)]
    omega
  rw [Int32.toInt_sub, n1, n4, n3, Int.bmod_eq_of_le (by omega) (by omega)]
  omega
theorem eq_shown (h : RR n st mt) (hz : Rz mt) {a1 a2 : Int32} : OkT n 3 (f_BN_shown st a1 a2) (f_MO_shown mt a1 a2) := by
  have hi := h.2.2.2.2.2.2.2.2.2.2.2.1
  unfold f_BN_shown f_MO_shown
  rw [hi.1]
  by_cases e1 : a1 < 0
  · rw [if_pos e1, if_pos e1]
    exact OkT.no h hz (by decide) (by decide)
  · rw [if_neg e1, if_neg e1]
    by_cases e2 : mt 0 48 0 ≤ a1
    · rw [if_pos e2, if_pos e2]
      exact OkT.no h hz (by decide) (by decide)
    · rw [if_neg e2, if_neg e2]
      have b0 := i32_nlt e1
      have b1 := i32_nle e2
      have bn := i32_nat b0
      obtain ⟨⟨d, c, d8, c4, g0, g1, g2⟩, g3, g4, g5, g6⟩ := (hi.2.2 a1.toNatClampNeg (by have := hi.2.1.2; omega)).1 (by omega)
      by_cases e3 : a2 < 0
      · rw [if_pos e3, if_pos e3]
        exact OkT.no h hz (by decide) (by decide)
      · rw [if_neg e3, if_neg e3]
        by_cases e4 : 4 ≤ a2
        · rw [if_pos e4, if_neg (show ¬ a2 < 4 from fun z => nlt_le.mp z e4)]
          exact OkT.no h hz (by decide) (by decide)
        · rw [if_neg e4, if_pos (show a2 < 4 from nlt_le.mpr e4)]
          obtain ⟨q1, q2⟩ := q4_div d8 c4
          by_cases e5 : 2 ≤ a2
          · have n0 : ¬ a2 = 0 := fun z => by rw [z] at e5; exact absurd e5 (by decide)
            have n1 : ¬ a2 = 1 := fun z => by rw [z] at e5; exact absurd e5 (by decide)
            rw [if_pos e5, if_neg (show ¬ a2 < 2 from fun z => nlt_le.mp z e5), if_neg n0, if_neg n1, g0, g1, g2, q2, q1]
            by_cases e6 : a2 = 2
            · rw [if_pos e6, if_pos e6]
              exact OkT.yes h hz rfl
            · rw [if_neg e6, if_neg e6]
              exact OkT.yes h hz rfl
          · rw [if_neg e5, if_pos (show a2 < 2 from nlt_le.mpr e5)]
            obtain ⟨s1, s2⟩ := sub_long h.1.2.1 h.1.2.2
            have h3 : (3000 : Int32).toInt = 3000 := by decide
            rcases g6 with ⟨y1, y2⟩ | ⟨y1, y2, y3, y4⟩
            · rw [if_pos y1, y2, h.1.1, if_neg (fun z => by have := i32_lt.mp z; have := h.1.2.1; omega)]
              exact OkT.no h hz (by decide) (by decide)
            · rw [if_neg (show ¬ mt 47 a1.toNatClampNeg 0 = -1 from fun z => by rw [z] at y1; exact absurd y1 (by decide)), y2, y3, y4, h.1.1]
              by_cases e6 : mt 0 1 0 - mt 50 a1.toNatClampNeg 0 < 3000
              · rw [if_pos e6, if_pos e6]
                by_cases e7 : a2 = 0
                · rw [if_pos e7, if_pos e7]
                  exact OkT.yes h hz rfl
                · rw [if_neg e7, if_neg e7]
                  have e8 : a2 = 1 := by
                    have z1 := i32_nlt e3
                    have z2 := i32_nle e5
                    have z3 := lv_neT e7 (a := 0) (by decide)
                    have h1 : (1 : Int32).toInt = 1 := by decide
                    have h2 : (2 : Int32).toInt = 2 := by decide
                    exact i32_ext (by omega)
                  rw [if_pos e8]
                  exact OkT.yes h hz rfl
              · rw [if_neg e6, if_neg e6]
                exact OkT.no h hz (by decide) (by decide)
theorem c113_1 {a : Int32} : ∀ (m : Nat) (x : Int32), g_MO_count_113 m mt a 1 x = 1 := by
  intro m
  induction m with
  | zero => intro x; rfl
  | succ m ih =>
    intro x
    rw [g_MO_count_113, if_neg (show ¬ (1 : Int32) = 0 by decide), ih]
    split <;> rfl
theorem ss_loop (h : RR n st mt) {a : Int32} : ∀ (m : Nat) (x : Int32), lpi 8 m x → (g_BN_stationSounds_2 m st x = 0 ↔ g_MO_count_113 m mt a 0 x = 0) := by
  intro m
  induction m with
  | zero => intro x hx; exact absurd hx lpi_no
  | succ m ih =>
    intro x hx
    rw [g_BN_stationSounds_2, g_MO_count_113]
    by_cases hcc : 8 ≤ x
    · rw [if_pos hcc, if_pos hcc]
    · have hlt := lpi_c hx hcc i32_8
      have hx1 : vp_in x 8 := lpi_ix hx hlt (by decide)
      have hnx := lpi_nx hx hlt (by decide)
      have hl := loud_iff h hx1
      rw [if_neg hcc, if_neg hcc, if_pos rfl]
      by_cases e1 : f_MO_knowsLoud mt x = 0
      · rw [if_pos e1, if_pos (hl.mpr e1)]
        exact ih _ hnx
      · rw [if_neg e1, if_neg (fun z => e1 (hl.mp z)), c113_1]
theorem eq_count (h : RR n st mt) (hz : Rz mt) {a1 : Int32} : f_BN_count st a1 = (f_MO_count mt a1).2 ∧ (f_MO_count mt a1).1 = xu mt 0 0 0 0 := by
  have h' := h.th (v := 0)
  have hi := h.2.2.2.2.2.2.2.2.2.2.2.1
  have ho := h.2.2.2.2.2.2.2.2.2.2.2.2.1
  have hp := h.2.2.2.2.2.2.2.2.2.2.2.2.2.1
  have hs := h.2.2.2.2.2.2.2.2.2.2.2.2.2.2.1
  have k100 : (100 : Int32).toInt = 100 := by decide
  have k200 : (200 : Int32).toInt = 200 := by decide
  have k264 : (264 : Int32).toInt = 264 := by decide
  have k300 : (300 : Int32).toInt = 300 := by decide
  have k304 : (304 : Int32).toInt = 304 := by decide
  have hb := Int32.toInt_lt a1
  have hs100 : 100 ≤ a1.toInt → (a1 - 100).toInt = a1.toInt - 100 := fun z => by rw [Int32.toInt_sub, k100, Int.bmod_eq_of_le (by omega) (by omega)]
  have hs200 : 100 ≤ a1.toInt → (a1 - 200).toInt = a1.toInt - 200 := fun z => by rw [Int32.toInt_sub, k200, Int.bmod_eq_of_le (by omega) (by omega)]
  have hs300 : 100 ≤ a1.toInt → (a1 - 300).toInt = a1.toInt - 300 := fun z => by rw [Int32.toInt_sub, k300, Int.bmod_eq_of_le (by omega) (by omega)]
  unfold f_BN_count f_MO_count
  by_cases e1 : a1 < 100
  · have i1 := i32_lt.mp e1
    rw [if_pos e1, if_pos (show a1 < 300 from i32_lt.mpr (by omega)), if_pos (show a1 < 200 from i32_lt.mpr (by omega)), if_pos e1]
    rw [if_pos (show a1 < 200 from i32_lt.mpr (by omega)), if_pos (show a1 < 300 from i32_lt.mpr (by omega))]
    by_cases c0 : a1 = 0
    · rw [if_pos c0, if_pos c0]
      exact ⟨h.1.1, rfl⟩
    · rw [if_neg c0, if_neg c0]
      by_cases c1 : a1 = 1
      · rw [if_pos c1, if_pos c1]
        exact ⟨hs.1, rfl⟩
      · rw [if_neg c1, if_neg c1]
        by_cases c2 : a1 = 2
        · rw [if_pos c2, if_pos c2]
          exact ⟨hp.1, rfl⟩
        · rw [if_neg c2, if_neg c2]
          by_cases c3 : a1 = 3
          · rw [if_pos c3, if_pos c3]
            exact ⟨hp.2.2.1, rfl⟩
          · rw [if_neg c3, if_neg c3]
            by_cases c4 : a1 = 4
            · rw [if_pos c4, if_pos c4]
              exact ⟨hi.1, rfl⟩
            · rw [if_neg c4, if_neg c4]
              by_cases c5 : a1 = 5
              · rw [if_pos c5, if_pos c5]
                exact ⟨ho.1, rfl⟩
              · rw [if_neg c5, if_neg c5]
                by_cases c6 : a1 = 6
                · rw [if_pos c6, if_pos c6]
                  have hl := ss_loop h' (a := a1) 9 0 lpi_st
                  unfold f_BN_stationSounds
                  by_cases z : g_MO_count_113 9 (xu mt 0 0 0 0) a1 0 0 = 0
                  · rw [if_pos z, if_pos (hl.mpr z)]
                    exact ⟨rfl, rfl⟩
                  · rw [if_neg z, if_neg (fun y => z (hl.mp y))]
                    exact ⟨rfl, rfl⟩
                · rw [if_neg c6, if_neg c6]
                  exact ⟨rfl, rfl⟩
  · have i1 : 100 ≤ a1.toInt := by
      have : ¬ a1.toInt < (100 : Int32).toInt := fun z => e1 (i32_lt.mpr z)
      omega
    rw [if_neg e1]
    by_cases e2 : 200 ≤ a1
    · have i2 := i32_le.mp e2
      have n200 : ¬ a1 < 200 := fun z => by have := i32_lt.mp z; omega
      rw [if_pos e2]
      by_cases e3 : 264 ≤ a1
      · have i3 := i32_le.mp e3
        rw [if_pos e3]
        by_cases e4 : a1 < 300
        · have i4 := i32_lt.mp e4
          have hz9 : ∀ {x : Int32}, x.toInt < 100 → ¬ a1 = x := fun z y => by rw [y] at i1; omega
          rw [if_neg n200, if_pos e4, if_pos e4, if_neg n200, if_neg (hz9 (x := 0) (by decide)), if_neg (hz9 (x := 1) (by decide)), if_neg (hz9 (x := 2) (by decide)), if_neg (hz9 (x := 3) (by decide)), if_neg (hz9 (x := 4) (by decide)), if_neg (hz9 (x := 5) (by decide)), if_neg (hz9 (x := 6) (by decide)), hp.1, if_pos (show mt 0 39 0 ≤ a1 - 200 from i32_le.mpr (by rw [hs200 i1]; have := hp.2.1.2; omega))]
          refine ⟨?_, ?_⟩ <;> simp only [ite_self]
        · have i4 : 300 ≤ a1.toInt := by
            have : ¬ a1.toInt < (300 : Int32).toInt := fun z => e4 (i32_lt.mpr z)
            omega
          rw [if_neg n200, if_neg e4, if_neg e4]
          unfold f_BN_isBed
          rw [if_neg (show ¬ a1 - 300 < 0 from now_nn (by rw [hs300 i1]; omega))]
          by_cases e5 : 304 ≤ a1
          · have i5 := i32_le.mp e5
            have hz9 : ∀ {x : Int32}, x.toInt < 100 → ¬ a1 = x := fun z y => by rw [y] at i1; omega
            rw [if_pos e5, if_pos (show 4 ≤ a1 - 300 from i32_le.mpr (by rw [hs300 i1, show (4 : Int32).toInt = 4 from by decide]; omega)), if_pos rfl, if_neg (hz9 (x := 0) (by decide)), if_neg (hz9 (x := 1) (by decide)), if_neg (hz9 (x := 2) (by decide)), if_neg (hz9 (x := 3) (by decide)), if_neg (hz9 (x := 4) (by decide)), if_neg (hz9 (x := 5) (by decide)), if_neg (hz9 (x := 6) (by decide))]
            refine ⟨?_, ?_⟩ <;> simp only [ite_self]
          · have i5 := i32_nle e5
            rw [if_neg e5, if_neg (show ¬ 4 ≤ a1 - 300 from fun z => by have := i32_le.mp z; rw [hs300 i1, show (4 : Int32).toInt = 4 from by decide] at this; omega), if_neg (by decide)]
            refine ⟨?_, by simp only [ite_self]⟩
            simp only [ite_self]
            refine h.2.1 _ ?_
            have := i32_nat (x := a1 - 300) (by rw [hs300 i1]; omega)
            rw [hs300 i1] at this
            omega
      · have i3 := i32_nle e3
        rw [if_neg n200, if_neg e3, if_pos (show a1 < 300 from i32_lt.mpr (by omega)), if_neg n200, hp.1]
        by_cases e4 : mt 0 39 0 ≤ a1 - 200
        · rw [if_pos e4, if_pos e4]
          refine ⟨?_, ?_⟩ <;> simp only [ite_self]
        · have i4 := i32_nle e4
          rw [if_neg e4, if_neg e4]
          refine ⟨?_, by simp only [ite_self]⟩
          simp only [ite_self]
          refine (hp.2.2.2.2.2 _ ?_).1
          have := i32_nat (x := a1 - 200) (by rw [hs200 i1]; omega)
          omega
    · have i2 := i32_nle e2
      rw [if_neg e2, if_pos (show a1 < 300 from i32_lt.mpr (by omega)), if_pos (show a1 < 200 from i32_lt.mpr (by omega)), if_neg e1, ho.1]
      by_cases e4 : mt 0 56 0 ≤ a1 - 100
      · rw [if_pos e4, if_pos e4]
        refine ⟨?_, ?_⟩ <;> simp only [ite_self]
      · have i4 := i32_nle e4
        rw [if_neg e4, if_neg e4]
        have hn := i32_nat (x := a1 - 100) (by rw [hs100 i1]; omega)
        exact ⟨(ho.2.2 _ (by have := ho.2.1.2; omega)).2.2, rfl⟩
/-! where a place is bound to -/
theorem lc_loop {d : Nat} {u : Int32} (h5 : (st 8 5 d).toInt ≤ (4 : Nat)) : ∀ (m : Nat) (x : Int32), lpi 4 m x → (∃ c : Nat, x.toNatClampNeg ≤ c ∧ (c : Int) < (st 8 5 d).toInt ∧ st 12 3 (20 * d + 4 * c) = u ∧ (g_DE_leastChannelWith_2 m st d u x).toInt = c ∧ ∀ c' : Nat, x.toNatClampNeg ≤ c' → c' < c → ¬ st 12 3 (20 * d + 4 * c') = u) ∨ (g_DE_leastChannelWith_2 m st d u x = -1 ∧ ∀ c : Nat, x.toNatClampNeg ≤ c → (c : Int) < (st 8 5 d).toInt → ¬ st 12 3 (20 * d + 4 * c) = u) := by
  intro m
  induction m with
  | zero => intro x hx; exact absurd hx lpi_no
  | succ m ih =>
    intro x hx
    have ex := i32_nat hx.1
    rw [g_DE_leastChannelWith_2]
    by_cases hcc : st 8 5 d ≤ x
    · rw [if_pos hcc]
      have := i32_le.mp hcc
      exact Or.inr ⟨rfl, fun c c1 c2 => by omega⟩
    · have hlt := i32_nle hcc
      have hi := inc_n hx.1 (by omega)
      rw [if_neg hcc]
      by_cases e : st 12 3 (20 * d + 4 * x.toNatClampNeg) = u
      · rw [if_pos e]
        exact Or.inl ⟨_, Nat.le_refl _, by omega, e, ex.symm, fun c' z1 z2 => by omega⟩
      · rw [if_neg e]
        rcases ih (x + 1) (lpi_nx hx (by omega) (by decide)) with ⟨c, c1, c2, c3, c4, c5⟩ | ⟨c1, c2⟩
        · refine Or.inl ⟨c, by omega, c2, c3, c4, fun c' z1 z2 => ?_⟩
          by_cases e2 : c' = x.toNatClampNeg
          · rw [e2]; exact e
          · exact c5 c' (by omega) z2
        · refine Or.inr ⟨c1, fun c z1 z2 => ?_⟩
          by_cases e2 : c = x.toNatClampNeg
          · rw [e2]; exact e
          · exact c2 c (by omega) z2
def ldP (st : XS) (a1 a2 : Int32) (d : Nat) : Prop := st 8 3 d = a1 ∧ ¬ st 8 6 d = 0 ∧ ¬ f_DE_leastChannelWith st d a2 = -1
theorem ld_loop {a1 a2 : Int32} : ∀ (m : Nat) (x : Int32), lpi 8 m x → (∃ d : Nat, x.toNatClampNeg ≤ d ∧ d < 8 ∧ ldP st a1 a2 d ∧ (g_BN_leastDeviceWith_2 m st a1 a2 x).toInt = d ∧ ∀ d' : Nat, x.toNatClampNeg ≤ d' → d' < d → ¬ ldP st a1 a2 d') ∨ (g_BN_leastDeviceWith_2 m st a1 a2 x = -1 ∧ ∀ d : Nat, x.toNatClampNeg ≤ d → d < 8 → ¬ ldP st a1 a2 d) := by
  intro m
  induction m with
  | zero => intro x hx; exact absurd hx lpi_no
  | succ m ih =>
    intro x hx
    have ex := i32_nat hx.1
    rw [g_BN_leastDeviceWith_2]
    by_cases hcc : 8 ≤ x
    · rw [if_pos hcc]
      have := i32_le.mp hcc
      have h8 : (8 : Int32).toInt = 8 := by decide
      exact Or.inr ⟨rfl, fun c c1 c2 => by omega⟩
    · have hlt := lpi_c hx hcc i32_8
      have hi := inc_n hx.1 (by omega)
      have hnx := ih (x + 1) (lpi_nx hx hlt (by decide))
      rw [if_neg hcc]
      have hno : ¬ ldP st a1 a2 x.toNatClampNeg → ((∃ d : Nat, x.toNatClampNeg ≤ d ∧ d < 8 ∧ ldP st a1 a2 d ∧ (g_BN_leastDeviceWith_2 m st a1 a2 (x + 1)).toInt = d ∧ ∀ d' : Nat, x.toNatClampNeg ≤ d' → d' < d → ¬ ldP st a1 a2 d') ∨ (g_BN_leastDeviceWith_2 m st a1 a2 (x + 1) = -1 ∧ ∀ d : Nat, x.toNatClampNeg ≤ d → d < 8 → ¬ ldP st a1 a2 d)) := by
        intro e
        rcases hnx with ⟨c, c1, c2, c3, c4, c5⟩ | ⟨c1, c2⟩
        · refine Or.inl ⟨c, by omega, c2, c3, c4, fun c' z1 z2 => ?_⟩
          by_cases e2 : c' = x.toNatClampNeg
          · rw [e2]; exact e
          · exact c5 c' (by omega) z2
        · refine Or.inr ⟨c1, fun c z1 z2 => ?_⟩
          by_cases e2 : c = x.toNatClampNeg
          · rw [e2]; exact e
          · exact c2 c (by omega) z2
      by_cases e1 : st 8 3 x.toNatClampNeg = a1
      · rw [if_pos e1]
        by_cases e2 : st 8 6 x.toNatClampNeg = 0
        · rw [if_pos e2]
          exact hno (fun z => z.2.1 e2)
        · rw [if_neg e2]
          by_cases e3 : f_DE_leastChannelWith st x.toNatClampNeg a2 = -1
          · rw [if_pos e3]
            exact hno (fun z => z.2.2 e3)
          · rw [if_neg e3]
            exact Or.inl ⟨_, Nat.le_refl _, by omega, ⟨e1, e2, e3⟩, ex.symm, fun c' z1 z2 => by omega⟩
      · rw [if_neg e1]
        exact hno (fun z => e1 z.1)
def bdP (mt : XS) (a1 a2 : Int32) (k : Nat) : Prop := mt 2 (k / 4) 0 = 2 ∧ ¬ mt 6 (k / 4) 0 = 0 ∧ mt 3 (k / 4) 0 = a1 ∧ ((k % 4 : Nat) : Int) < (mt 5 (k / 4) 0).toInt ∧ mt 16 k 0 = a2
theorem bd_loop {a1 a2 : Int32} : ∀ (m : Nat) (c3 x : Int32), -1 ≤ x.toInt → x.toInt ≤ 31 → x.toInt + 1 < m → (∃ k : Nat, (k : Int) ≤ x.toInt ∧ bdP mt a1 a2 k ∧ (g_MO_bind_41 m mt a1 a2 c3 x).toInt = k ∧ ∀ k' : Nat, k' < k → ¬ bdP mt a1 a2 k') ∨ (g_MO_bind_41 m mt a1 a2 c3 x = c3 ∧ ∀ k : Nat, (k : Int) ≤ x.toInt → ¬ bdP mt a1 a2 k) := by
  intro m
  induction m with
  | zero => intro c3 x h0 h1 h2; omega
  | succ m ih =>
    intro c3 x h0 h1 h2
    rw [g_MO_bind_41]
    by_cases hcc : x < 0
    · rw [if_pos hcc]
      have := i32_lt.mp hcc
      have z0 : (0 : Int32).toInt = 0 := by decide
      exact Or.inr ⟨rfl, fun k k1 => by omega⟩
    · rw [if_neg hcc]
      obtain ⟨j, hj, ej⟩ := nI_of hcc
      have n1 := nI_toInt hj
      rw [← ej] at n1
      have ed : x / 4 = nI (j / 4) := by rw [ej]; exact pk_div (d := 4) hj (by decide) (by decide)
      have nd := nI_toInt (n := j / 4) (by omega)
      have xn := nat_ix n1
      have dn : (x / 4).toNatClampNeg = j / 4 := by rw [ed]; exact nat_ix nd
      have em : (x - x / 4 * 4).toInt = ((j % 4 : Nat) : Int) := by
        have : (x / 4 * 4).toInt = 4 * ((j / 4 : Nat) : Int) := by
          rw [Int32.toInt_mul, ed, nd, show (4 : Int32).toInt = 4 from by decide, Int.bmod_eq_of_le (by omega) (by omega)]
          omega
        rw [Int32.toInt_sub, n1, this, Int.bmod_eq_of_le (by omega) (by omega)]
        omega
      have xd : (x + -1).toInt = x.toInt - 1 := by
        rw [Int32.toInt_add, show (-1 : Int32).toInt = -1 from by decide, Int.bmod_eq_of_le (by omega) (by omega)]
        omega
      have hno : ¬ bdP mt a1 a2 j → ((∃ k : Nat, (k : Int) ≤ x.toInt ∧ bdP mt a1 a2 k ∧ (g_MO_bind_41 m mt a1 a2 c3 (x + -1)).toInt = k ∧ ∀ k' : Nat, k' < k → ¬ bdP mt a1 a2 k') ∨ (g_MO_bind_41 m mt a1 a2 c3 (x + -1) = c3 ∧ ∀ k : Nat, (k : Int) ≤ x.toInt → ¬ bdP mt a1 a2 k)) := by
        intro e
        rcases ih c3 (x + -1) (by omega) (by omega) (by omega) with ⟨k, k1, k2, k3, k4⟩ | ⟨k1, k2⟩
        · exact Or.inl ⟨k, by omega, k2, k3, k4⟩
        · refine Or.inr ⟨k1, fun k z => ?_⟩
          by_cases e2 : k = j
          · rw [e2]; exact e
          · exact k2 k (by omega)
      rw [dn, xn]
      by_cases e1 : mt 2 (j / 4) 0 = 2
      · rw [if_pos e1]
        by_cases e2 : mt 6 (j / 4) 0 = 0
        · rw [if_pos e2]
          exact hno (fun z => z.2.1 e2)
        · rw [if_neg e2]
          by_cases e3 : mt 3 (j / 4) 0 = a1
          · rw [if_pos e3]
            by_cases e4 : mt 5 (j / 4) 0 ≤ x - x / 4 * 4
            · rw [if_pos e4]
              have := i32_le.mp e4
              exact hno (fun z => by have := z.2.2.2.1; omega)
            · rw [if_neg e4]
              have i4 := i32_nle e4
              by_cases e5 : mt 16 j 0 = a2
              · rw [if_pos e5]
                have hP : bdP mt a1 a2 j := ⟨e1, e2, e3, by omega, e5⟩
                rcases ih x (x + -1) (by omega) (by omega) (by omega) with ⟨k, k1, k2, k3, k4⟩ | ⟨k1, k2⟩
                · exact Or.inl ⟨k, by omega, k2, k3, k4⟩
                · exact Or.inl ⟨j, by omega, hP, by rw [k1]; exact n1, fun k' z => k2 k' (by omega)⟩
              · rw [if_neg e5]
                exact hno (fun z => e5 z.2.2.2.2)
          · rw [if_neg e3]
            exact hno (fun z => e3 z.2.2.1)
      · rw [if_neg e1]
        exact hno (fun z => e1 z.1)
/-- both sides bind to the same channel -/
theorem least_R (h : RR n st mt) (a1 a2 : Int32) : (∃ d c : Nat, d < 8 ∧ c < 4 ∧ f_BN_leastDeviceWith st a1 a2 = nI d ∧ f_DE_leastChannelWith st d a2 = nI c ∧ g_MO_bind_41 33 mt a1 a2 (-1) 31 = nI (4 * d + c)) ∨ (f_BN_leastDeviceWith st a1 a2 = -1 ∧ g_MO_bind_41 33 mt a1 a2 (-1) 31 = -1) := by
  have hd := h.2.2.1
  have hc := h.2.2.2.2.2.1
  have z0 : (0 : Int32).toNatClampNeg = 0 := by decide
  have hLC : ∀ d, d < 8 → (∃ c : Nat, (c : Int) < (mt 5 d 0).toInt ∧ mt 16 (4 * d + c) 0 = a2 ∧ (f_DE_leastChannelWith st d a2).toInt = c ∧ ∀ c' : Nat, c' < c → ¬ mt 16 (4 * d + c') 0 = a2) ∨ (f_DE_leastChannelWith st d a2 = -1 ∧ ∀ c : Nat, (c : Int) < (mt 5 d 0).toInt → ¬ mt 16 (4 * d + c) 0 = a2) := by
    intro d d8
    have e5 := (hd d d8).2.2.2.1
    have b5 := (hd d d8).2.2.2.2.2.1.2
    have hu : ∀ c : Nat, (c : Int) < (mt 5 d 0).toInt → st 12 3 (20 * d + 4 * c) = mt 16 (4 * d + c) 0 := fun c z => ((hc d d8 c (by omega)).1 z).1
    have r := lc_loop (st := st) (d := d) (u := a2) (by rw [e5]; exact b5) 5 0 lpi_st
    rw [e5, z0] at r
    rcases r with ⟨c, c1, c2, c3, c4, c5⟩ | ⟨c1, c2⟩
    · exact Or.inl ⟨c, c2, by rw [← hu c c2]; exact c3, c4, fun c' z => by rw [← hu c' (by omega)]; exact c5 c' (by omega) z⟩
    · exact Or.inr ⟨c1, fun c z => by rw [← hu c z]; exact c2 c (by omega) z⟩
  have h31 : (31 : Int32).toInt = 31 := by decide
  have rb := bd_loop (mt := mt) (a1 := a1) (a2 := a2) 33 (-1) 31 (by omega) (by omega) (by omega)
  have rd := ld_loop (st := st) (a1 := a1) (a2 := a2) 9 0 lpi_st
  rw [z0] at rd
  have hm1 : (-1 : Int32).toInt = -1 := by decide
  have hbd : ∀ d, d < 8 → ∀ c : Nat, c < 4 → bdP mt a1 a2 (4 * d + c) → ldP st a1 a2 d ∧ (c : Int) < (mt 5 d 0).toInt ∧ mt 16 (4 * d + c) 0 = a2 := by
    intro d d8 c c4 hb
    unfold bdP at hb
    rw [show (4 * d + c) / 4 = d by omega, show (4 * d + c) % 4 = c by omega] at hb
    obtain ⟨b1, b2, b3, b4, b5⟩ := hb
    refine ⟨⟨by rw [(hd d d8).2.1]; exact b3, by rw [(hd d d8).2.2.2.2.1]; exact b2, fun z => ?_⟩, b4, b5⟩
    rcases hLC d d8 with ⟨c', c1, c2, c3, c5⟩ | ⟨c1, c2⟩
    · rw [z] at c3
      omega
    · exact c2 c b4 b5
  rcases rd with ⟨d, -, d8, p1, p2, p3⟩ | ⟨p2, p3⟩
  · rcases hLC d d8 with ⟨c, c1, c2, c3, c5⟩ | ⟨c1, -⟩
    · left
      have b5 := (hd d d8).2.2.2.2.2.1.2
      have c4 : c < 4 := by omega
      have e3 : ¬ mt 6 d 0 = 0 := by rw [← (hd d d8).2.2.2.2.1]; exact p1.2.1
      have hP : bdP mt a1 a2 (4 * d + c) := by
        unfold bdP
        rw [show (4 * d + c) / 4 = d by omega, show (4 * d + c) % 4 = c by omega]
        exact ⟨(hd d d8).2.2.2.2.2.2.2.2 e3, e3, by rw [← (hd d d8).2.1]; exact p1.1, c1, c2⟩
      have hmin : ∀ k, k < 4 * d + c → ¬ bdP mt a1 a2 k := by
        intro k hk hb
        obtain ⟨d', c', d1, d2, rfl⟩ : ∃ d' c' : Nat, d' < 8 ∧ c' < 4 ∧ k = 4 * d' + c' := ⟨k / 4, k % 4, by omega, by omega, by omega⟩
        obtain ⟨q1, q2, q3⟩ := hbd d' d1 c' d2 hb
        by_cases e : d' = d
        · subst e
          exact c5 c' (by omega) q3
        · exact p3 d' (by omega) (by omega) q1
      refine ⟨d, c, d8, c4, i32_ext (by rw [nI_toInt (by omega)]; exact p2), i32_ext (by rw [nI_toInt (by omega)]; exact c3), ?_⟩
      rcases rb with ⟨k, k1, k2, k3, k4⟩ | ⟨-, k2⟩
      · have : k = 4 * d + c := by
          rcases Nat.lt_trichotomy k (4 * d + c) with z | z | z
          · exact absurd k2 (hmin k z)
          · exact z
          · exact absurd hP (k4 _ z)
        exact i32_ext (by rw [nI_toInt (by omega), k3, this])
      · exact absurd hP (k2 _ (by omega))
    · exact absurd c1 p1.2.2
  · right
    refine ⟨p2, ?_⟩
    rcases rb with ⟨k, k1, k2, k3, k4⟩ | ⟨k1, -⟩
    · exfalso
      obtain ⟨d', c', d1, d2, rfl⟩ : ∃ d' c' : Nat, d' < 8 ∧ c' < 4 ∧ k = 4 * d' + c' := ⟨k / 4, k % 4, by omega, by omega, by omega⟩
      exact p3 d' (by omega) d1 (hbd d' d1 c' d2 k2).1
    · exact k1
theorem bind_R (h : RR n st mt) {d c : Nat} (d8 : d < 8) (c4 : c < 4) (hlt : (mt 0 48 0).toInt < 16) : RR n (xu (f_DI_attach st (mt 0 48 0).toNatClampNeg (nI d) (nI c) (st 8 4 d) (st 8 6 d)) 0 6 0 (mt 0 48 0 + 1)) (xu (xu (xu (xu (xu mt 44 (mt 0 48 0).toNatClampNeg 0 (nI (4 * d + c))) 45 (mt 0 48 0).toNatClampNeg 0 (mt 4 d 0)) 46 (mt 0 48 0).toNatClampNeg 0 (mt 6 d 0)) 47 (mt 0 48 0).toNatClampNeg 0 (-1)) 0 48 0 (mt 0 48 0 + 1)) := by
  unfold f_DI_attach
  obtain ⟨ha, hb, hd, hn, ht, hc, hq, hv, hw, hl, hk, hi, ho, hp, hs, hm, hN⟩ := h
  obtain ⟨-, -, e4, -, e6, -⟩ := hd d d8
  obtain ⟨o1, o2, o3⟩ := hi
  have hinc := i32_inc o2.1 (by omega)
  have hnn := i32_nat o2.1
  refine ⟨Ra_of ha (((((Ag.rf.w (by decide)).w (by decide)).w (by decide)).w (by decide)).w (by decide)) (((((Ag.rf.wa (by decide)).wa (by decide)).wa (by decide)).wa (by decide)).w (by decide)), Rb_of hb (((((Ag.rf.w (by decide)).w (by decide)).w (by decide)).w (by decide)).w (by decide)) (((((Ag.rf.wa (by decide)).wa (by decide)).wa (by decide)).wa (by decide)).w (by decide)), Rd_of hd (((((Ag.rf.w (by decide)).w (by decide)).w (by decide)).w (by decide)).w (by decide)) (((((Ag.rf.wa (by decide)).wa (by decide)).wa (by decide)).wa (by decide)).w (by decide)), Rn_of hn (((((Ag.rf.w (by decide)).w (by decide)).w (by decide)).w (by decide)).w (by decide)) (((((Ag.rf.wa (by decide)).wa (by decide)).wa (by decide)).wa (by decide)).w (by decide)), Rt_of ht (((((Ag.rf.w (by decide)).w (by decide)).w (by decide)).w (by decide)).w (by decide)) (((((Ag.rf.wa (by decide)).wa (by decide)).wa (by decide)).wa (by decide)).w (by decide)), Rc_of hc (((((Ag.rf.w (by decide)).w (by decide)).w (by decide)).w (by decide)).w (by decide)) (((((Ag.rf.wa (by decide)).wa (by decide)).wa (by decide)).wa (by decide)).w (by decide)), Rq_of hq (((((Ag.rf.wa (by decide)).wa (by decide)).wa (by decide)).wa (by decide)).w (by decide)), Rv_of hv (((((Ag.rf.w (by decide)).w (by decide)).w (by decide)).w (by decide)).w (by decide)) (((((Ag.rf.wa (by decide)).wa (by decide)).wa (by decide)).wa (by decide)).w (by decide)), Rw_of hw (((((Ag.rf.w (by decide)).w (by decide)).w (by decide)).w (by decide)).w (by decide)) (((((Ag.rf.wa (by decide)).wa (by decide)).wa (by decide)).wa (by decide)).w (by decide)), Rl_of hl (((((Ag.rf.w (by decide)).w (by decide)).w (by decide)).w (by decide)).w (by decide)) (((((Ag.rf.wa (by decide)).wa (by decide)).wa (by decide)).wa (by decide)).w (by decide)), Rk_of hk (((((Ag.rf.w (by decide)).w (by decide)).w (by decide)).w (by decide)).w (by decide)) (((((Ag.rf.wa (by decide)).wa (by decide)).wa (by decide)).wa (by decide)).w (by decide)), ?_, Ro_of ho (((((Ag.rf.w (by decide)).w (by decide)).w (by decide)).w (by decide)).w (by decide)) (((((Ag.rf.wa (by decide)).wa (by decide)).wa (by decide)).wa (by decide)).w (by decide)), Rp_of hp (((((Ag.rf.w (by decide)).w (by decide)).w (by decide)).w (by decide)).w (by decide)) (((((Ag.rf.wa (by decide)).wa (by decide)).wa (by decide)).wa (by decide)).w (by decide)), Rs_of hs (((((Ag.rf.w (by decide)).w (by decide)).w (by decide)).w (by decide)).w (by decide)) (((((Ag.rf.wa (by decide)).wa (by decide)).wa (by decide)).wa (by decide)).w (by decide)), Rm_of hm (((((Ag.rf.wa (by decide)).wa (by decide)).wa (by decide)).wa (by decide)).w (by decide)), hN⟩
  unfold Ri
  simp (disch := first | decide | assumption | omega) only [xu_s, xu_f, xu_a, xu_o, xu_k, fill_a, fill_in, fill_out]
  refine ⟨trivial, ⟨by omega, by omega⟩, ?_⟩
  intro j hj
  obtain ⟨p1, p2⟩ := o3 j hj
  by_cases e : j = (mt 0 48 0).toNatClampNeg
  · subst e
    simp (disch := first | decide | assumption | omega) only [xu_s, xu_f, xu_a, xu_o, xu_k, fill_a, fill_in, fill_out]
    have p3 := p2 (by omega)
    exact ⟨fun _ => ⟨⟨d, c, d8, c4, rfl, rfl, rfl⟩, e4, e6, p3.1, Or.inl ⟨trivial, p3.2⟩⟩, fun z => absurd (show ((mt 0 48 0).toNatClampNeg : Int) < (mt 0 48 0 + 1).toInt by omega) z⟩
  · simp (disch := first | decide | assumption | omega) only [xu_s, xu_f, xu_a, xu_o, xu_k, fill_a, fill_in, fill_out]
    exact ⟨fun z => p1 (by omega), fun z => p2 (by omega)⟩
theorem eq_bind (h : RR n st mt) (hz : Rz mt) {a1 a2 : Int32} : OkT n 1 (f_BN_bind st a1 a2) (f_MO_bind mt a1 a2) := by
  have h' := h.th (v := 0)
  have hi := h.2.2.2.2.2.2.2.2.2.2.2.1
  have h16 : (16 : Int32).toInt = 16 := by decide
  unfold f_BN_bind f_MO_bind f_BN_isUnit
  by_cases e0 : f_BN_isBed a1 = 0
  · rw [if_pos e0, if_pos (show f_MO_isBed a1 = 0 from e0)]
    exact OkT.no h hz (by decide) (by decide)
  · rw [if_neg e0, if_neg (show ¬ f_MO_isBed a1 = 0 from e0)]
    by_cases e1 : a2 < 0
    · rw [if_pos e1, if_pos rfl, if_pos e1]
      exact OkT.no h hz (by decide) (by decide)
    · rw [if_neg e1, if_neg e1]
      by_cases e2 : 16 ≤ a2
      · rw [if_pos e2, if_pos rfl, if_pos e2]
        exact OkT.no h hz (by decide) (by decide)
      · rw [if_neg e2, if_neg (show ¬ (1 : Int32) = 0 by decide), if_neg e2, hi.1]
        by_cases e3 : mt 0 48 0 = 16
        · rw [if_pos e3, if_pos (show 16 ≤ mt 0 48 0 by rw [e3]; decide)]
          exact OkT.no h' hz.th (by decide) (by decide)
        · have hlt : (mt 0 48 0).toInt < 16 := by
            have h1 := hi.2.1.2
            have h2 : (mt 0 48 0).toInt ≠ 16 := fun z => e3 (i32_ext (z.trans h16.symm))
            omega
          rw [if_neg e3, if_neg (show ¬ 16 ≤ mt 0 48 0 from fun z => by have := i32_le.mp z; omega)]
          rcases least_R h' a1 a2 with ⟨d, c, d8, c4, p1, p2, p3⟩ | ⟨p1, p2⟩
          · have nd := nI_toInt (n := d) (by omega)
            have nk := nI_toInt (n := 4 * d + c) (by omega)
            rw [p1, nat_ix nd, p2, p3, (q4_div d8 c4).1, nat_ix nd, if_neg (ne_m1 nd), if_pos (ge_0 nk), Int32.add_sub_cancel]
            have h2 := bind_R (h'.th (v := 0)) d8 c4 (by simp (disch := first | decide | assumption | omega) only [xu_s, xu_f, xu_a, xu_o, xu_k, fill_a, fill_in, fill_out]; exact hlt)
            simp (disch := first | decide | assumption | omega) only [xu_s, xu_f, xu_a, xu_o, xu_k, fill_a, fill_in, fill_out] at h2
            refine ⟨?_, fun _ => rfl, ?_, ?_⟩
            · dsimp only
              simp (disch := first | decide | assumption | omega) only [xu_s, xu_f, xu_a, xu_o, xu_k, fill_a, fill_in, fill_out]
              decide
            · dsimp only
              exact h2.mono (by omega)
            · dsimp only
              exact Rz_of hz.th.th (((((Ag.rf.wa (by decide)).wa (by decide)).wa (by decide)).wa (by decide)).w (by decide))
          · rw [if_pos p1, p2, if_neg (show ¬ (0 : Int32) ≤ -1 by decide)]
            exact OkT.no h' hz.th (by decide) (by decide)
end BND
