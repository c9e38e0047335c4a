section PST
variable {n : Nat} {st mt : XS}
theorem px_loop {a : Int32} (hp : (st 5 1 0).toInt ≤ (64 : Nat)) : ∀ (m : Nat) (x : Int32), lpi 64 m x → (∃ j : Nat, x.toNatClampNeg ≤ j ∧ (j : Int) < (st 5 1 0).toInt ∧ st 7 0 (st 6 j 0).toNatClampNeg = a ∧ (g_PO_indexOf_2 m st a x).toInt = j) ∨ (g_PO_indexOf_2 m st a x = -1 ∧ ∀ j : Nat, x.toNatClampNeg ≤ j → (j : Int) < (st 5 1 0).toInt → ¬ st 7 0 (st 6 j 0).toNatClampNeg = a) := by
  intro m
  induction m with
  | zero => intro x hx; exact absurd hx lpi_no
  | succ m ih =>
    intro x hx
    have ex := i32_nat hx.1
    rw [g_PO_indexOf_2]
    by_cases hcc : st 5 1 0 ≤ x
    · rw [if_pos hcc]
      have := i32_le.mp hcc
      exact Or.inr ⟨rfl, fun j h1 h2 => by omega⟩
    · have hlt := i32_nle hcc
      rw [if_neg hcc]
      by_cases e : st 7 0 (st 6 x.toNatClampNeg 0).toNatClampNeg = a
      · rw [if_pos e]
        exact Or.inl ⟨_, Nat.le_refl _, by omega, e, ex.symm⟩
      · rw [if_neg e]
        have hi := inc_n hx.1 (by omega)
        rcases ih (x + 1) (lpi_nx hx (by omega) (by decide)) with ⟨j, j1, j2, j3, j4⟩ | ⟨j1, j2⟩
        · exact Or.inl ⟨j, by omega, j2, j3, j4⟩
        · refine Or.inr ⟨j1, fun j h1 h2 => ?_⟩
          by_cases e2 : j = x.toNatClampNeg
          · rw [e2]; exact e
          · exact j2 j (by omega) h2
theorem fx_loop {a : Int32} (hp : (mt 0 39 0).toInt ≤ (64 : Nat)) : ∀ (m : Nat) (c2 x : Int32), lpi 64 m x → (∃ j : Nat, x.toNatClampNeg ≤ j ∧ (j : Int) < (mt 0 39 0).toInt ∧ mt 36 j 0 = a ∧ (g_MO_find_4 m mt a c2 x).toInt = j) ∨ (g_MO_find_4 m mt a c2 x = c2 ∧ ∀ j : Nat, x.toNatClampNeg ≤ j → (j : Int) < (mt 0 39 0).toInt → ¬ mt 36 j 0 = a) := by
  intro m
  induction m with
  | zero => intro c2 x hx; exact absurd hx lpi_no
  | succ m ih =>
    intro c2 x hx
    have ex := i32_nat hx.1
    rw [g_MO_find_4]
    by_cases hcc : mt 0 39 0 ≤ x
    · rw [if_pos hcc]
      have := i32_le.mp hcc
      exact Or.inr ⟨rfl, fun j h1 h2 => by omega⟩
    · have hlt := i32_nle hcc
      have hnx := lpi_nx hx (by omega) (by decide)
      have hi := inc_n hx.1 (by omega)
      rw [if_neg hcc]
      by_cases e : mt 36 x.toNatClampNeg 0 = a
      · rw [if_pos e]
        rcases ih x (x + 1) hnx with ⟨j, j1, j2, j3, j4⟩ | ⟨j1, j2⟩
        · exact Or.inl ⟨j, by omega, j2, j3, j4⟩
        · exact Or.inl ⟨_, Nat.le_refl _, by omega, e, by rw [j1]; exact ex.symm⟩
      · rw [if_neg e]
        rcases ih c2 (x + 1) hnx with ⟨j, j1, j2, j3, j4⟩ | ⟨j1, j2⟩
        · exact Or.inl ⟨j, by omega, j2, j3, j4⟩
        · refine Or.inr ⟨j1, fun j h1 h2 => ?_⟩
          by_cases e2 : j = x.toNatClampNeg
          · rw [e2]; exact e
          · exact j2 j (by omega) h2
/-- both sides find the same message -/
theorem find_R (h : RR n st mt) (a : Int32) : (∃ j : Nat, (j : Int) < (mt 0 39 0).toInt ∧ mt 36 j 0 = a ∧ (f_PO_indexOf st a).toInt = j ∧ (f_MO_find mt a).toInt = j) ∨ (f_PO_indexOf st a = -1 ∧ f_MO_find mt a = -1) := by
  obtain ⟨ha, hb, hd, hn, ht, hc, hq, hv, hw, hl, hk, hi, ho, hp, hs, hm, hN⟩ := h
  obtain ⟨p1, p2, p3, p4, p5, p6⟩ := hp
  obtain ⟨s1, s2, s3, s4⟩ := hs
  unfold f_PO_indexOf f_MO_find
  have z0 : (0 : Int32).toNatClampNeg = 0 := by decide
  have r1 := px_loop (st := st) (a := a) (by rw [p1]; exact p2.2) 65 0 lpi_st
  have r2 := fx_loop (mt := mt) (a := a) p2.2 65 (-1) 0 lpi_st
  rw [p1] at r1
  rcases r1 with ⟨j, j1, j2, j3, j4⟩ | ⟨j1, j2⟩
  · rw [(p6 j j2).1] at j3
    rcases r2 with ⟨i, i1, i2, i3, i4⟩ | ⟨i1, i2⟩
    · have e : i = j := by
        rcases Nat.lt_trichotomy i j with z | z | z
        · have := s4 i j z j2
          rw [i3, j3] at this
          omega
        · exact z
        · have := s4 j i z i2
          rw [i3, j3] at this
          omega
      subst e
      exact Or.inl ⟨i, i2, i3, j4, i4⟩
    · exact absurd j3 (i2 j (by omega) j2)
  · rcases r2 with ⟨i, i1, i2, i3, i4⟩ | ⟨i1, i2⟩
    · exact absurd ((p6 i i2).1.trans i3) (j2 i (by omega) i2)
    · exact Or.inr ⟨j1, i1⟩
theorem OkT.yes {e1 : Nat} {r r' : Int32} (h : RR n st mt) (hz : Rz mt) (hr : r = r') : OkT n e1 (0, r, st) (xu mt 0 0 0 0, r') := ⟨by show wK e1 0 = xu mt 0 0 0 0 0 0 0; rw [xu_s]; rfl, fun _ => hr, h.th.mono (by omega), hz.th⟩
theorem nat_ix {x : Int32} {j : Nat} (h : x.toInt = j) : x.toNatClampNeg = j := by
  have := i32_nat (x := x) (by omega)
  omega
theorem ne_m1 {x : Int32} {j : Nat} (h : x.toInt = j) : ¬ x = -1 := fun z => by
  rw [z, show (-1 : Int32).toInt = -1 from by decide] at h
  omega
theorem ge_0 {x : Int32} {j : Nat} (h : x.toInt = j) : 0 ≤ x := i32_le.mpr (by rw [show (0 : Int32).toInt = 0 from by decide]; omega)
theorem eq_message (h : RR n st mt) (hz : Rz mt) {a1 a2 : Int32} : OkT n 4 (f_BN_message st a1 a2) (f_MO_message mt a1 a2) := by
  unfold f_BN_message f_MO_message
  rcases find_R h a1 with ⟨j, j1, j2, j3, j4⟩ | ⟨j3, j4⟩
  · rw [if_neg (ne_m1 j3), if_pos (ge_0 j4), nat_ix j3, nat_ix j4]
    by_cases e1 : a2 < 0
    · rw [if_pos e1, if_pos e1]
      exact OkT.no h hz (by decide) (by decide)
    · rw [if_neg e1, if_neg e1]
      have h5 : (5 : Int32).toInt = 5 := by decide
      have h4 : (4 : Int32).toInt = 4 := by decide
      obtain ⟨q0, q1, q2, q3, q4, q5, q6⟩ := h.2.2.2.2.2.2.2.2.2.2.2.2.2.1.2.2.2.2.2 j j1
      by_cases e2 : a2 < 5
      · have := i32_lt.mp e2
        rw [if_pos e2, if_pos (show a2 ≤ 4 from i32_le.mpr (by omega))]
        unfold f_ME_fact
        by_cases c0 : a2 = 0
        · rw [if_pos c0, if_pos c0]
          exact OkT.yes h hz q1
        · rw [if_neg c0, if_neg c0]
          by_cases c1 : a2 = 1
          · rw [if_pos c1, if_pos c1]
            exact OkT.yes h hz q2
          · rw [if_neg c1, if_neg c1]
            by_cases c2 : a2 = 2
            · rw [if_pos c2, if_pos c2]
              exact OkT.yes h hz q3
            · rw [if_neg c2, if_neg c2]
              by_cases c3 : a2 = 3
              · rw [if_pos c3, if_pos c3]
                exact OkT.yes h hz q4
              · rw [if_neg c3, if_neg c3]
                exact OkT.yes h hz q5
      · rw [if_neg e2, if_neg (fun z => e2 (i32_lt.mpr (by have := i32_le.mp z; omega)))]
        exact OkT.no h hz (by decide) (by decide)
  · rw [if_pos j3, if_neg (fun z => by rw [j4] at z; exact absurd z (by decide))]
    exact OkT.no h hz (by decide) (by decide)
theorem dec_i {x : Int32} (h : 1 ≤ x.toInt) : (x - 1).toInt = x.toInt - 1 := by
  have hb := Int32.toInt_lt x
  rw [Int32.toInt_sub, show (1 : Int32).toInt = 1 from by decide, Int.bmod_eq_of_le (by omega) (by omega)]
theorem rm_loop {a1 x2 : Int32} : ∀ (m : Nat) (st : XS) (x3 : Int32), 1 ≤ x3.toInt → lpi 64 m x3 → (st 5 1 0).toInt ≤ (64 : Nat) → ∀ x : Nat, g_PO_remove_11 m st a1 x2 x3 6 x 0 = if x3.toNatClampNeg ≤ x + 1 ∧ ((x + 1 : Nat) : Int) < (st 5 1 0).toInt then st 6 (x + 1) 0 else st 6 x 0 := by
  intro m
  induction m with
  | zero => intro st x3 h1 hx; exact absurd hx lpi_no
  | succ m ih =>
    intro st x3 h1 hx hp x
    have ex := i32_nat hx.1
    rw [g_PO_remove_11]
    by_cases hcc : st 5 1 0 ≤ x3
    · have := i32_le.mp hcc
      rw [if_pos hcc, if_neg (fun z => by omega)]
    · have hlt := i32_nle hcc
      have hi := inc_n hx.1 (by omega)
      have hd := dec_i h1
      have hdn := i32_nat (x := x3 - 1) (by omega)
      have e5 : xu st 6 (x3 - 1).toNatClampNeg 0 (st 6 x3.toNatClampNeg 0) 5 1 0 = st 5 1 0 := xu_a (by decide)
      have hi2 := i32_inc hx.1 (by omega)
      rw [if_neg hcc, ih _ _ (by omega) (lpi_nx hx (by omega) (by decide)) (by rw [e5]; exact hp) x, e5, hi]
      by_cases c1 : x3.toNatClampNeg + 1 ≤ x + 1 ∧ ((x + 1 : Nat) : Int) < (st 5 1 0).toInt
      · rw [if_pos c1, if_pos ⟨by omega, c1.2⟩, xu_k (by omega)]
      · rw [if_neg c1]
        by_cases c2 : x + 1 = x3.toNatClampNeg
        · rw [if_pos ⟨by omega, by omega⟩, show (x3 - 1).toNatClampNeg = x by omega, xu_s, c2]
        · rw [if_neg (fun z => c1 ⟨by omega, z.2⟩), xu_k (by omega)]
/-- where a place's message lay before one was taken out -/
def pit (j P x : Nat) : Nat := if x + 1 = P then j else if j ≤ x ∧ x + 1 < P then x + 1 else x
theorem pit_in {j P x : Nat} (h : x + 1 < P) : pit j P x = if j ≤ x then x + 1 else x := by
  unfold pit
  rw [if_neg (by omega)]
  by_cases c : j ≤ x
  · rw [if_pos ⟨c, h⟩, if_pos c]
  · rw [if_neg (fun z => c z.1), if_neg c]
theorem rm_6 {a : Int32} {j P : Nat} (ha : a.toInt = j) (hP : (st 5 1 0).toInt = P) (h64 : P ≤ 64) (hj : j < P) (x : Nat) : f_PO_remove st a 6 x 0 = st 6 (pit j P x) 0 := by
  have e1 := nat_ix ha
  have e2 := nat_ix (x := st 5 1 0 - 1) (j := P - 1) (by rw [dec_i (by omega)]; omega)
  have e3 := i32_inc (x := a) (by omega) (by omega)
  have e4 : (a + 1).toNatClampNeg = j + 1 := nat_ix (by omega)
  unfold f_PO_remove pit
  rw [e1, e2]
  by_cases c : x + 1 = P
  · rw [if_pos c, show P - 1 = x by omega, xu_s]
  · rw [if_neg c, xu_k (by omega), xu_a (by decide), rm_loop 65 st (a + 1) (by omega) ⟨by omega, by omega, by omega⟩ (by omega) x, e4]
    by_cases c2 : j ≤ x ∧ x + 1 < P
    · rw [if_pos c2, if_pos ⟨by omega, by omega⟩]
    · rw [if_neg c2, if_neg (fun z => c2 ⟨by omega, by omega⟩)]
theorem rm_5 {a : Int32} : f_PO_remove st a 5 1 0 = st 5 1 0 - 1 := by
  unfold f_PO_remove
  rw [xu_a (by decide), xu_s]
def shf (st : XS) (x : Int32) : XS := (xu (xu (xu (xu (xu (xu (xu (xu st 36 x.toNatClampNeg 0 (st 36 ((x + 1)).toNatClampNeg 0)) 37 x.toNatClampNeg 0 (st 37 ((x + 1)).toNatClampNeg 0)) 38 x.toNatClampNeg 0 (st 38 ((x + 1)).toNatClampNeg 0)) 39 x.toNatClampNeg 0 (st 39 ((x + 1)).toNatClampNeg 0)) 40 x.toNatClampNeg 0 (st 40 ((x + 1)).toNatClampNeg 0)) 41 x.toNatClampNeg 0 (st 41 ((x + 1)).toNatClampNeg 0)) 42 x.toNatClampNeg 0 (st 42 ((x + 1)).toNatClampNeg 0)) 43 x.toNatClampNeg 0 (st 43 ((x + 1)).toNatClampNeg 0))
theorem shf_39 {x : Int32} : shf st x 0 39 0 = st 0 39 0 := by
  unfold shf
  simp (disch := first | decide | assumption | omega) only [xu_s, xu_f, xu_a, xu_o, xu_k, fill_a, fill_in, fill_out]
theorem shf_a {x : Int32} {a y : Nat} (ha : 36 ≤ a ∧ a ≤ 43) : shf st x a y 0 = if y = x.toNatClampNeg then st a (x + 1).toNatClampNeg 0 else st a y 0 := by
  have hc : a = 36 ∨ a = 37 ∨ a = 38 ∨ a = 39 ∨ a = 40 ∨ a = 41 ∨ a = 42 ∨ a = 43 := by omega
  unfold shf
  by_cases e : y = x.toNatClampNeg
  · rw [if_pos e, e]
    rcases hc with rfl | rfl | rfl | rfl | rfl | rfl | rfl | rfl
    all_goals simp [xu]
  · rw [if_neg e]
    rcases hc with rfl | rfl | rfl | rfl | rfl | rfl | rfl | rfl
    all_goals simp [xu, e]
theorem tk_loop {a1 : Int32} {a : Nat} (ha : 36 ≤ a ∧ a ≤ 43) : ∀ (m : Nat) (st : XS) (x2 : Int32), lpi 63 m x2 → (st 0 39 0).toInt ≤ (63 : Nat) → ∀ x : Nat, g_MO_take_12 m st a1 x2 a x 0 = if x2.toNatClampNeg ≤ x ∧ (x : Int) < (st 0 39 0).toInt then st a (x + 1) 0 else st a x 0 := by
  intro m
  induction m with
  | zero => intro st x2 hx; exact absurd hx lpi_no
  | succ m ih =>
    intro st x2 hx hp x
    have ex := i32_nat hx.1
    rw [g_MO_take_12]
    by_cases hcc : st 0 39 0 ≤ x2
    · have := i32_le.mp hcc
      rw [if_pos hcc, if_neg (fun z => by omega)]
    · have hlt := i32_nle hcc
      have hi := inc_n hx.1 (by omega)
      rw [if_neg hcc]
      have q := ih (shf st x2) (x2 + 1) (lpi_nx hx (by omega) (by decide)) (by rw [shf_39]; exact hp) x
      rw [shf_39, shf_a ha, shf_a ha, hi] at q
      refine Eq.trans q ?_
      by_cases c1 : x2.toNatClampNeg + 1 ≤ x ∧ (x : Int) < (st 0 39 0).toInt
      · rw [if_pos c1, if_neg (by omega), if_pos ⟨by omega, c1.2⟩]
      · rw [if_neg c1]
        by_cases c2 : x = x2.toNatClampNeg
        · rw [if_pos c2, if_pos ⟨by omega, by omega⟩, c2]
        · rw [if_neg c2, if_neg (fun z => c1 ⟨by omega, z.2⟩)]
theorem tk_a {v : Int32} {j P a : Nat} (ha : 36 ≤ a ∧ a ≤ 43) (hv : v.toInt = j) (hP : (mt 0 39 0).toInt = P) (h64 : P ≤ 64) (hj : j < P) (x : Nat) (hx : x + 1 < P) : f_MO_take mt v a x 0 = mt a (pit j P x) 0 := by
  have e1 := nat_ix hv
  have e0 : a ≠ 0 := by omega
  have e2 : xu mt 0 39 0 (mt 0 39 0 - 1) 0 39 0 = mt 0 39 0 - 1 := xu_s
  have e3 := dec_i (x := mt 0 39 0) (by omega)
  have h9 : (xu mt 0 39 0 (mt 0 39 0 - 1) 0 39 0).toInt ≤ (63 : Nat) := by rw [e2]; omega
  unfold f_MO_take pit
  rw [if_neg (by omega), tk_loop ha 64 _ v ⟨by omega, by omega, by omega⟩ h9 x, e2, e1, xu_a e0, xu_a e0]
  by_cases c2 : j ≤ x ∧ x + 1 < P
  · rw [if_pos c2, if_pos ⟨by omega, by omega⟩]
  · rw [if_neg c2, if_neg (fun z => c2 ⟨by omega, by omega⟩)]
theorem tk_0 {v : Int32} : f_MO_take mt v 0 39 0 = mt 0 39 0 - 1 := by
  unfold f_MO_take
  rw [fr_MO_take_12 (by decide) (by decide), xu_s]
theorem take_R (h : RR n st mt) {v : Int32} {j : Nat} (hv9 : v.toInt = j) (hj : (j : Int) < (mt 0 39 0).toInt) : RR n (f_PO_remove st v) (f_MO_take mt v) := by
  obtain ⟨ha, hb, hd, hn, ht, hc, hq, hv, hw, hl, hk, hi, ho, hp, hs, hm, hN⟩ := h
  obtain ⟨P, hP⟩ : ∃ P : Nat, (mt 0 39 0).toInt = P := ⟨(mt 0 39 0).toNatClampNeg, (i32_nat hp.2.1.1).symm⟩
  have hP2 := hp.2.1.2
  have hPs : (st 5 1 0).toInt = P := by rw [hp.1]; exact hP
  have ed := dec_i (x := mt 0 39 0) (by omega)
  have hA : ∀ a, 36 ≤ a → a ≤ 43 → ∀ x : Nat, x + 1 < P → f_MO_take mt v a x 0 = mt a (pit j P x) 0 := fun a h1 h2 x hx => tk_a ⟨h1, h2⟩ hv9 hP (by omega) (by omega) x hx
  have h6 := rm_6 (st := st) hv9 hPs (by omega) (by omega)
  have h7 : ∀ k i, f_PO_remove st v 7 k i = st 7 k i := fun k i => fr_PO_remove (by simp) (by decide)
  have hpit : ∀ x, x + 1 < P → pit j P x < P := fun x hx => by
    unfold pit
    rw [if_neg (by omega)]
    split <;> omega
  have hpm : ∀ x y, x < y → y + 1 < P → pit j P x < pit j P y := fun x y hxy hy => by
    rw [pit_in (show x + 1 < P by omega), pit_in hy]
    by_cases c1 : j ≤ x
    · rw [if_pos c1, if_pos (show j ≤ y by omega)]
      omega
    · rw [if_neg c1]
      split <;> omega
  refine ⟨Ra_of ha (Ag.of fr_PO_remove (by decide)) (Ag.of fr_MO_take (by decide)), Rb_of hb (Ag.of fr_PO_remove (by decide)) (Ag.of fr_MO_take (by decide)), Rd_of hd (Ag.of fr_PO_remove (by decide)) (Ag.of fr_MO_take (by decide)), Rn_of hn (Ag.of fr_PO_remove (by decide)) (Ag.of fr_MO_take (by decide)), Rt_of ht (Ag.of fr_PO_remove (by decide)) (Ag.of fr_MO_take (by decide)), Rc_of hc (Ag.of fr_PO_remove (by decide)) (Ag.of fr_MO_take (by decide)), Rq_of hq (Ag.of fr_MO_take (by decide)), Rv_of hv (Ag.of fr_PO_remove (by decide)) (Ag.of fr_MO_take (by decide)), Rw_of hw (Ag.of fr_PO_remove (by decide)) (Ag.of fr_MO_take (by decide)), Rl_of hl (Ag.of fr_PO_remove (by decide)) (Ag.of fr_MO_take (by decide)), Rk_of hk (Ag.of fr_PO_remove (by decide)) (Ag.of fr_MO_take (by decide)), Ri_of hi (Ag.of fr_PO_remove (by decide)) (Ag.of fr_MO_take (by decide)), Ro_of ho (Ag.of fr_PO_remove (by decide)) (Ag.of fr_MO_take (by decide)), ?_, ?_, ?_, (by rw [fr_MO_take (by decide) (by decide)]; exact hN)⟩
  · obtain ⟨p1, p2, p3, p4, p5, p6⟩ := hp
    unfold Rp
    rw [rm_5, tk_0, fr_PO_remove (by decide) (by decide), fr_MO_take (by decide) (by decide), p1, ed]
    simp only [h6, h7]
    have hlt : ∀ x, x < 65 → pit j P x < 65 := fun x hx => by
      unfold pit
      split
      · omega
      · split <;> omega
    refine ⟨trivial, ⟨by omega, by omega⟩, p3, fun x hx => p4 _ (hlt x hx), fun x y hx hy e => ?_, fun x hx => ?_⟩
    · have e2 := p5 _ _ (hlt x hx) (hlt y hy) e
      revert e2
      unfold pit
      split <;> split <;> (try split) <;> (try split) <;> omega
    · have hx2 : x + 1 < P := by omega
      rw [hA 36 (by decide) (by decide) x hx2, hA 37 (by decide) (by decide) x hx2, hA 38 (by decide) (by decide) x hx2, hA 39 (by decide) (by decide) x hx2, hA 40 (by decide) (by decide) x hx2, hA 41 (by decide) (by decide) x hx2, hA 42 (by decide) (by decide) x hx2, hA 43 (by decide) (by decide) x hx2]
      exact p6 _ (by have := hpit x hx2; omega)
  · obtain ⟨s1, s2, s3, s4⟩ := hs
    unfold Rs
    rw [tk_0, fr_PO_remove (by decide) (by decide), fr_MO_take (by decide) (by decide), ed]
    refine ⟨s1, s2, fun x hx => ?_, fun x y hxy hy => ?_⟩
    · have hx2 : x + 1 < P := by omega
      rw [hA 36 (by decide) (by decide) x hx2]
      exact s3 _ (by have := hpit x hx2; omega)
    · have hy2 : y + 1 < P := by omega
      rw [hA 36 (by decide) (by decide) x (by omega), hA 36 (by decide) (by decide) y hy2]
      exact s4 _ _ (hpm x y hxy hy2) (by have := hpit y hy2; omega)
  · unfold Rm
    rw [tk_0, ed]
    intro x hx
    have hx2 : x + 1 < P := by omega
    have f2 : ∀ k i, f_MO_take mt v 2 k i = mt 2 k i := fun k i => fr_MO_take (by simp) (by decide)
    have f5 : ∀ k i, f_MO_take mt v 5 k i = mt 5 k i := fun k i => fr_MO_take (by simp) (by decide)
    have f8 : ∀ k i, f_MO_take mt v 8 k i = mt 8 k i := fun k i => fr_MO_take (by simp) (by decide)
    have f0 : f_MO_take mt v 0 56 0 = mt 0 56 0 := fr_MO_take (by decide) (by decide)
    rw [hA 37 (by decide) (by decide) x hx2, hA 38 (by decide) (by decide) x hx2, hA 39 (by decide) (by decide) x hx2, f2, f5, f8, f0]
    exact hm _ (by have := hpit x hx2; omega)
theorem eq_drop (h : RR n st mt) (hz : Rz mt) {a1 : Int32} : Ok n (f_BN_drop st a1) (f_MO_drop mt a1) := by
  have h' := h.th (v := 0)
  unfold f_BN_drop f_MO_drop
  rcases find_R h' a1 with ⟨j, j1, j2, j3, j4⟩ | ⟨j3, j4⟩
  · rw [if_neg (ne_m1 j3), if_pos (ge_0 j4), show f_MO_find (xu mt 0 0 0 0) a1 = f_PO_indexOf st a1 from i32_ext (j4.trans j3.symm)]
    refine ⟨rfl, ?_, ?_⟩
    · dsimp only
      exact (take_R h' j3 j1).mono (by omega)
    · dsimp only
      exact Rz_of hz.th (Ag.of fr_MO_take (by decide))
  · rw [if_pos j3, if_neg (fun z => by rw [j4] at z; exact absurd z (by decide))]
    exact Ok.no h hz
theorem cp_7 {o k i : Nat} (h : i ≠ 65) : f_ME_copy st 65 o 7 k i = st 7 k i := by
  unfold f_ME_copy
  simp [xu, h]
theorem cp_65 {o : Nat} (ho : o ≠ 65) : f_ME_copy st 65 o 7 0 65 = st 7 0 o ∧ f_ME_copy st 65 o 7 1 65 = st 7 1 o ∧ f_ME_copy st 65 o 7 2 65 = st 7 2 o ∧ f_ME_copy st 65 o 7 3 65 = st 7 3 o ∧ f_ME_copy st 65 o 7 4 65 = st 7 4 o ∧ f_ME_copy st 65 o 7 5 65 = st 7 5 o ∧ f_ME_copy st 65 o 7 6 65 = st 7 6 o ∧ f_ME_copy st 65 o 7 7 65 = st 7 7 o := by
  unfold f_ME_copy
  simp [xu]
theorem copy_R (h : RR n st mt) {o : Nat} : RR n (f_ME_copy st 65 o) mt := by
  obtain ⟨ha, hb, hd, hn, ht, hc, hq, hv, hw, hl, hk, hi, ho, hp, hs, hm, hN⟩ := h
  refine ⟨Ra_of ha (Ag.of fr_ME_copy (by decide)) (Ag.rf), Rb_of hb (Ag.of fr_ME_copy (by decide)) (Ag.rf), Rd_of hd (Ag.of fr_ME_copy (by decide)) (Ag.rf), Rn_of hn (Ag.of fr_ME_copy (by decide)) (Ag.rf), Rt_of ht (Ag.of fr_ME_copy (by decide)) (Ag.rf), Rc_of hc (Ag.of fr_ME_copy (by decide)) (Ag.rf), Rq_of hq (Ag.rf), Rv_of hv (Ag.of fr_ME_copy (by decide)) (Ag.rf), Rw_of hw (Ag.of fr_ME_copy (by decide)) (Ag.rf), Rl_of hl (Ag.of fr_ME_copy (by decide)) (Ag.rf), Rk_of hk (Ag.of fr_ME_copy (by decide)) (Ag.rf), Ri_of hi (Ag.of fr_ME_copy (by decide)) (Ag.rf), Ro_of ho (Ag.of fr_ME_copy (by decide)) (Ag.rf), ?_, Rs_of hs (Ag.of fr_ME_copy (by decide)) (Ag.rf), Rm_of hm (Ag.rf), hN⟩
  obtain ⟨p1, p2, p3, p4, p5, p6⟩ := hp
  have f6 : ∀ k i, f_ME_copy st 65 o 6 k i = st 6 k i := fun k i => fr_ME_copy (by simp) (by decide)
  unfold Rp
  rw [fr_ME_copy (by decide) (by decide), fr_ME_copy (by decide) (by decide)]
  simp only [f6]
  refine ⟨p1, p2, p3, p4, p5, fun j hj => ?_⟩
  have hne : (st 6 j 0).toNatClampNeg ≠ 65 := by
    have := p4 j (by omega)
    omega
  simp only [cp_7 hne]
  exact p6 j hj
end PST
