def RR (n : Nat) (st mt : XS) : Prop := Ra st mt ∧ Rb st mt ∧ Rd st mt ∧ Rn st mt ∧ Rt st mt ∧ Rc st mt ∧ Rq mt ∧ Rv st mt ∧ Rw st mt ∧ Rl st mt ∧ Rk st mt ∧ Ri st mt ∧ Ro st mt ∧ Rp st mt ∧ Rs st mt ∧ Rm mt ∧ (mt 0 2 0).toInt ≤ n
theorem xu_o {st : XS} {a k i i' : Nat} {v : Int32} (h : i' ≠ i) : xu st a k i v a k i' = st a k i' := xu_n (fun e => h e.2.2)
theorem xu_k {st : XS} {a k k' i i' : Nat} {v : Int32} (h : k' ≠ k) : xu st a k i v a k' i' = st a k' i' := xu_n (fun e => h e.2.1)
theorem po7n {st : XS} {a1 a2 a3 a4 a5 a6 a7 : Int32} {k i : Nat} (h : i ≠ (st 6 (st 5 1 0).toNatClampNeg 0).toNatClampNeg) : f_PO_send st a1 a2 a3 a4 a5 a6 a7 7 k i = st 7 k i := by
  unfold f_PO_send
  split <;> simp [xu, h]
theorem po7 {st : XS} {a1 a2 a3 a4 a5 a6 a7 : Int32} {i : Nat} (h : i = (st 6 (st 5 1 0).toNatClampNeg 0).toNatClampNeg) :
    f_PO_send st a1 a2 a3 a4 a5 a6 a7 7 0 i = st 5 2 0 ∧ f_PO_send st a1 a2 a3 a4 a5 a6 a7 7 1 i = a1 ∧ f_PO_send st a1 a2 a3 a4 a5 a6 a7 7 2 i = a2 ∧ f_PO_send st a1 a2 a3 a4 a5 a6 a7 7 3 i = a3 ∧ f_PO_send st a1 a2 a3 a4 a5 a6 a7 7 4 i = a4 ∧ f_PO_send st a1 a2 a3 a4 a5 a6 a7 7 5 i = a5 ∧ f_PO_send st a1 a2 a3 a4 a5 a6 a7 7 6 i = a6 ∧ f_PO_send st a1 a2 a3 a4 a5 a6 a7 7 7 i = a7 := by
  subst h
  unfold f_PO_send
  split <;> simp [xu]
theorem po6 {st : XS} {a1 a2 a3 a4 a5 a6 a7 : Int32} {k i : Nat} : f_PO_send st a1 a2 a3 a4 a5 a6 a7 6 k i = st 6 k i := by
  unfold f_PO_send
  split <;> simp [xu]
theorem po5 {st : XS} {a1 a2 a3 a4 a5 a6 a7 : Int32} : f_PO_send st a1 a2 a3 a4 a5 a6 a7 5 1 0 = (if 64 ≤ st 5 1 0 then st 5 1 0 else st 5 1 0 + 1) ∧ f_PO_send st a1 a2 a3 a4 a5 a6 a7 5 2 0 = st 5 2 0 + 1 ∧ f_PO_send st a1 a2 a3 a4 a5 a6 a7 5 3 0 = (if 64 ≤ st 5 1 0 then st 5 3 0 + 1 else st 5 3 0) := by
  unfold f_PO_send
  split <;> simp [xu]
theorem mo0 {st : XS} {a1 a2 a3 a4 a5 : Int32} : f_MO_send st a1 a2 a3 a4 a5 0 39 0 = (if 64 ≤ st 0 39 0 then st 0 39 0 else st 0 39 0 + 1) ∧ f_MO_send st a1 a2 a3 a4 a5 0 2 0 = st 0 2 0 + 1 ∧ f_MO_send st a1 a2 a3 a4 a5 0 3 0 = (if 64 ≤ st 0 39 0 then st 0 3 0 + 1 else st 0 3 0) := by
  unfold f_MO_send
  split <;> simp [xu]
theorem mon {st : XS} {a1 a2 a3 a4 a5 : Int32} {a k : Nat} (h0 : a ≠ 0) (h : 64 ≤ st 0 39 0 ∨ k ≠ (st 0 39 0).toNatClampNeg) : f_MO_send st a1 a2 a3 a4 a5 a k 0 = st a k 0 := by
  unfold f_MO_send
  split
  · simp [xu, h0]
  · rename_i hc
    have h := h.resolve_left hc
    simp [xu, h0, h]
theorem mop {st : XS} {a1 a2 a3 a4 a5 : Int32} {k : Nat} (hc : ¬ 64 ≤ st 0 39 0) (h : k = (st 0 39 0).toNatClampNeg) :
    f_MO_send st a1 a2 a3 a4 a5 36 k 0 = st 0 2 0 ∧ f_MO_send st a1 a2 a3 a4 a5 37 k 0 = a1 ∧ f_MO_send st a1 a2 a3 a4 a5 38 k 0 = a2 ∧ f_MO_send st a1 a2 a3 a4 a5 39 k 0 = a3 ∧ f_MO_send st a1 a2 a3 a4 a5 40 k 0 = st 4 a2.toNatClampNeg 0 ∧ f_MO_send st a1 a2 a3 a4 a5 41 k 0 = a4 ∧ f_MO_send st a1 a2 a3 a4 a5 42 k 0 = a5 ∧ f_MO_send st a1 a2 a3 a4 a5 43 k 0 = st 6 a2.toNatClampNeg 0 := by
  subst h
  unfold f_MO_send
  rw [if_neg hc]
  simp [xu]
theorem i32_le {x y : Int32} : x ≤ y ↔ x.toInt ≤ y.toInt := Int32.le_iff_toInt_le
theorem i32_lt {x y : Int32} : x < y ↔ x.toInt < y.toInt := Int32.lt_iff_toInt_lt
theorem pend_nx {x : Int32} (h : 0 ≤ x.toInt ∧ x.toInt ≤ (64 : Nat)) (hc : ¬ 64 ≤ x) : (x + 1).toInt = x.toInt + 1 ∧ x.toInt < 64 := by
  have := i32_nle hc
  have e : (64 : Int32).toInt = 64 := by decide
  exact ⟨i32_inc h.1 (by omega), by omega⟩
theorem pend_64 {x : Int32} (h : 0 ≤ x.toInt ∧ x.toInt ≤ (64 : Nat)) (hc : 64 ≤ x) : x.toInt = 64 := by
  have := i32_le.mp hc
  have e : (64 : Int32).toInt = 64 := by decide
  omega
section SND
variable {n : Nat} {st mt : XS} {kd d pt v t t' w : Int32}
theorem send_Rp (hP : Rp st mt) (hs2 : st 5 2 0 = mt 0 2 0) (hlf : st 8 4 d.toNatClampNeg = mt 4 d.toNatClampNeg 0) (h1 : kd = 1 → t = t' ∧ w = mt 6 d.toNatClampNeg 0) : Rp (f_PO_send st kd d pt (st 8 4 d.toNatClampNeg) v t w) (f_MO_send mt kd d pt v t') := by
  obtain ⟨p1, p2, p3, p4, p5, p6⟩ := hP
  obtain ⟨q1, q2, q3⟩ := po5 (st := st) (a1 := kd) (a2 := d) (a3 := pt) (a4 := st 8 4 d.toNatClampNeg) (a5 := v) (a6 := t) (a7 := w)
  obtain ⟨r1, r2, r3⟩ := mo0 (st := mt) (a1 := kd) (a2 := d) (a3 := pt) (a4 := v) (a5 := t')
  have hpn := i32_nat p2.1
  unfold Rp
  rw [q1, q3, r1, r3, p1]
  simp only [po6]
  refine ⟨trivial, ?_, ?_, p4, p5, ?_⟩
  · split
    · exact p2
    · rename_i hc
      have := pend_nx p2 hc
      omega
  · split
    · rw [p3]
    · exact p3
  · intro j hj
    have hcase : (j : Int) < (mt 0 39 0).toInt ∨ (¬ 64 ≤ mt 0 39 0 ∧ (j : Int) = (mt 0 39 0).toInt) := by
      by_cases hc : 64 ≤ mt 0 39 0
      · rw [if_pos hc] at hj; exact Or.inl hj
      · rw [if_neg hc] at hj
        have := pend_nx p2 hc
        by_cases hj2 : (j : Int) < (mt 0 39 0).toInt
        · exact Or.inl hj2
        · exact Or.inr ⟨hc, by omega⟩
    rcases hcase with hj | ⟨hc, hj⟩
    · have hne : (st 6 j 0).toNatClampNeg ≠ (st 6 (st 5 1 0).toNatClampNeg 0).toNatClampNeg := by
        intro e
        have := p5 j (st 5 1 0).toNatClampNeg (by omega) (by rw [p1]; omega) e
        rw [p1] at this
        omega
      have hm : ∀ a, a ≠ 0 → f_MO_send mt kd d pt v t' a j 0 = mt a j 0 := fun a ha => mon ha (Or.inr (by omega))
      simp only [po7n hne, hm 36 (by decide), hm 37 (by decide), hm 38 (by decide), hm 39 (by decide), hm 40 (by decide), hm 41 (by decide), hm 42 (by decide), hm 43 (by decide)]
      exact p6 j hj
    · have hjn : j = (mt 0 39 0).toNatClampNeg := by omega
      have ho : (st 6 j 0).toNatClampNeg = (st 6 (st 5 1 0).toNatClampNeg 0).toNatClampNeg := by rw [p1, hjn]
      obtain ⟨u0, u1, u2, u3, u4, u5, u6, u7⟩ := po7 (a1 := kd) (a2 := d) (a3 := pt) (a4 := st 8 4 d.toNatClampNeg) (a5 := v) (a6 := t) (a7 := w) ho
      obtain ⟨w0, w1, w2, w3, w4, w5, w6, w7⟩ := mop (a1 := kd) (a2 := d) (a3 := pt) (a4 := v) (a5 := t') hc hjn
      rw [u0, u1, u2, u3, u4, u5, u6, u7, w0, w1, w2, w3, w4, w5, w6, w7]
      exact ⟨hs2, rfl, rfl, rfl, hlf, rfl, h1⟩
theorem send_Rs (hS : Rs st mt) (hP : Rp st mt) (hn : (mt 0 2 0).toInt ≤ n) (hb : n < 2147483647) (a4 : Int32) : Rs (f_PO_send st kd d pt a4 v t w) (f_MO_send mt kd d pt v t') ∧ (f_MO_send mt kd d pt v t' 0 2 0).toInt ≤ (n + 1 : Nat) := by
  obtain ⟨s1, s2, s3, s4⟩ := hS
  have p2 := hP.2.1
  obtain ⟨q1, q2, q3⟩ := po5 (st := st) (a1 := kd) (a2 := d) (a3 := pt) (a4 := a4) (a5 := v) (a6 := t) (a7 := w)
  obtain ⟨r1, r2, r3⟩ := mo0 (st := mt) (a1 := kd) (a2 := d) (a3 := pt) (a4 := v) (a5 := t')
  have hpn := i32_nat p2.1
  have hi := i32_inc (x := mt 0 2 0) s2 (by omega)
  unfold Rs
  rw [q2, r2, r1, s1, hi]
  have hcase : ∀ j : Nat, (j : Int) < (if 64 ≤ mt 0 39 0 then mt 0 39 0 else mt 0 39 0 + 1).toInt → (j : Int) < (mt 0 39 0).toInt ∨ (¬ 64 ≤ mt 0 39 0 ∧ (j : Int) = (mt 0 39 0).toInt) := by
    intro j hj
    by_cases hc : 64 ≤ mt 0 39 0
    · rw [if_pos hc] at hj; exact Or.inl hj
    · rw [if_neg hc] at hj
      have := pend_nx p2 hc
      by_cases hj2 : (j : Int) < (mt 0 39 0).toInt
      · exact Or.inl hj2
      · exact Or.inr ⟨hc, by omega⟩
  have hold : ∀ j : Nat, (j : Int) < (mt 0 39 0).toInt → f_MO_send mt kd d pt v t' 36 j 0 = mt 36 j 0 := fun j hj => mon (by decide) (Or.inr (by omega))
  refine ⟨⟨rfl, by omega, ?_, ?_⟩, by omega⟩
  · intro j hj
    rcases hcase j hj with hj | ⟨hc, hj⟩
    · rw [hold j hj]
      have := s3 j hj
      omega
    · rw [(mop hc (by omega)).1]
      omega
  · intro i j hij hj
    rcases hcase j hj with hj | ⟨hc, hj⟩
    · rw [hold j hj, hold i (by omega)]
      exact s4 i j hij hj
    · rw [(mop hc (show j = _ by omega)).1, hold i (by omega)]
      exact (s3 i (by omega)).2
theorem send_Rm (hM : Rm mt) (hP : Rp st mt) (hd : vp_in d 8) (hk : 1 ≤ kd.toInt ∧ kd.toInt ≤ 6) (hst : mt 2 d.toNatClampNeg 0 = 2) (hp1 : (kd = 1 ∨ kd = 2 ∨ kd = 4) → 0 ≤ pt.toInt ∧ pt.toInt < (mt 5 d.toNatClampNeg 0).toInt) (hp2 : (kd = 5 ∨ kd = 6) → 0 ≤ pt.toInt ∧ pt.toInt < (mt 0 56 0).toInt) (h5 : kd = 5 → ¬ bz (mt 8 d.toNatClampNeg 0) = 0) : Rm (f_MO_send mt kd d pt v t') := by
  have p2 := hP.2.1
  obtain ⟨r1, r2, r3⟩ := mo0 (st := mt) (a1 := kd) (a2 := d) (a3 := pt) (a4 := v) (a5 := t')
  have hpn := i32_nat p2.1
  have f2 : ∀ k, f_MO_send mt kd d pt v t' 2 k 0 = mt 2 k 0 := fun k => fr_MO_send (by simp) (by decide)
  have f5 : ∀ k, f_MO_send mt kd d pt v t' 5 k 0 = mt 5 k 0 := fun k => fr_MO_send (by simp) (by decide)
  have f8 : ∀ k, f_MO_send mt kd d pt v t' 8 k 0 = mt 8 k 0 := fun k => fr_MO_send (by simp) (by decide)
  have f56 : f_MO_send mt kd d pt v t' 0 56 0 = mt 0 56 0 := fr_MO_send (by decide) (by decide)
  unfold Rm
  rw [r1, f56]
  simp only [f2, f5, f8]
  intro j hj
  have hcase : (j : Int) < (mt 0 39 0).toInt ∨ (¬ 64 ≤ mt 0 39 0 ∧ (j : Int) = (mt 0 39 0).toInt) := by
    by_cases hc : 64 ≤ mt 0 39 0
    · rw [if_pos hc] at hj; exact Or.inl hj
    · rw [if_neg hc] at hj
      have := pend_nx p2 hc
      by_cases hj2 : (j : Int) < (mt 0 39 0).toInt
      · exact Or.inl hj2
      · exact Or.inr ⟨hc, by omega⟩
  rcases hcase with hj | ⟨hc, hj⟩
  · have hm : ∀ a, a ≠ 0 → f_MO_send mt kd d pt v t' a j 0 = mt a j 0 := fun a ha => mon ha (Or.inr (by omega))
    simp only [hm 37 (by decide), hm 38 (by decide), hm 39 (by decide)]
    exact hM j hj
  · obtain ⟨w0, w1, w2, w3, w4, w5, w6, w7⟩ := mop (a1 := kd) (a2 := d) (a3 := pt) (a4 := v) (a5 := t') hc (show j = _ by omega)
    rw [w1, w2, w3]
    exact ⟨hd, hk, hst, hp1, hp2, h5⟩
end SND
/-- a message goes out, on both sides -/
theorem send_R {n : Nat} {st mt : XS} {kd d pt v t t' w : Int32} (h : RR n st mt) (hb9 : n < 2147483647) (hd8 : vp_in d 8) (hkd : 1 ≤ kd.toInt ∧ kd.toInt ≤ 6) (hst : mt 2 d.toNatClampNeg 0 = 2) (hp1 : (kd = 1 ∨ kd = 2 ∨ kd = 4) → 0 ≤ pt.toInt ∧ pt.toInt < (mt 5 d.toNatClampNeg 0).toInt) (hp2 : (kd = 5 ∨ kd = 6) → 0 ≤ pt.toInt ∧ pt.toInt < (mt 0 56 0).toInt) (h5 : kd = 5 → ¬ bz (mt 8 d.toNatClampNeg 0) = 0) (h1 : kd = 1 → t = t' ∧ w = mt 6 d.toNatClampNeg 0) :
    RR (n + 1) (f_PO_send st kd d pt (st 8 4 d.toNatClampNeg) v t w) (f_MO_send mt kd d pt v t') := by
  obtain ⟨ha, hb, hd, hn, ht, hc, hq, hv, hw, hl, hk, hi, ho, hp, hs, hm, hN⟩ := h
  have hdn : d.toNatClampNeg < 8 := xin_lt hd8
  have hlf := (hd _ hdn).2.2.1
  exact ⟨Ra_of ha (Ag.of fr_PO_send (by decide)) (Ag.of fr_MO_send (by decide)), Rb_of hb (Ag.of fr_PO_send (by decide)) (Ag.of fr_MO_send (by decide)), Rd_of hd (Ag.of fr_PO_send (by decide)) (Ag.of fr_MO_send (by decide)), Rn_of hn (Ag.of fr_PO_send (by decide)) (Ag.of fr_MO_send (by decide)), Rt_of ht (Ag.of fr_PO_send (by decide)) (Ag.of fr_MO_send (by decide)), Rc_of hc (Ag.of fr_PO_send (by decide)) (Ag.of fr_MO_send (by decide)), Rq_of hq (Ag.of fr_MO_send (by decide)), Rv_of hv (Ag.of fr_PO_send (by decide)) (Ag.of fr_MO_send (by decide)), Rw_of hw (Ag.of fr_PO_send (by decide)) (Ag.of fr_MO_send (by decide)), Rl_of hl (Ag.of fr_PO_send (by decide)) (Ag.of fr_MO_send (by decide)), Rk_of hk (Ag.of fr_PO_send (by decide)) (Ag.of fr_MO_send (by decide)), Ri_of hi (Ag.of fr_PO_send (by decide)) (Ag.of fr_MO_send (by decide)), Ro_of ho (Ag.of fr_PO_send (by decide)) (Ag.of fr_MO_send (by decide)), send_Rp hp hs.1 hlf h1, (send_Rs hs hp hN hb9 _).1, send_Rm hm hp hd8 hkd hst hp1 hp2 h5, (send_Rs (st := st) (kd := kd) (d := d) (pt := pt) (v := v) (t := t) (w := w) hs hp hN hb9 0).2⟩
