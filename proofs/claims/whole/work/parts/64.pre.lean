section PRE
variable {n : Nat} {st mt : XS}
theorem RR.pok (h : RR n st mt) : pok st := by
  obtain ⟨p1, p2, p3, p4, p5, p6⟩ := h.2.2.2.2.2.2.2.2.2.2.2.2.2.1
  exact ⟨by rw [p1]; exact p2.1, by rw [p1]; exact p2.2, p4⟩
theorem RR.dok (h : RR n st mt) : dok st := fun d hd => by
  have := h.2.2.1 d hd
  rw [this.2.2.2.1]
  exact this.2.2.2.2.2.1.2
theorem RR.dok0 (h : RR n st mt) : ∀ d, d < 8 → 0 ≤ (st 8 5 d).toInt := fun d hd => by
  have := h.2.2.1 d hd
  rw [this.2.2.2.1]
  exact this.2.2.2.2.2.1.1
theorem RR.qok (h : RR n st mt) : qok mt := h.2.2.2.2.2.2.2.2.2.2.2.2.2.1.2.1
theorem RR.cok (h : RR n st mt) : cok mt := fun d hd => (h.2.2.1 d hd).2.2.2.2.2.1
theorem RR.dcn (h : RR n st mt) : (0 ≤ (st 0 6 0).toInt ∧ (st 0 6 0).toInt ≤ (16 : Nat)) ∧ (0 ≤ (mt 0 48 0).toInt ∧ (mt 0 48 0).toInt ≤ (16 : Nat)) := by
  have := h.2.2.2.2.2.2.2.2.2.2.2.1
  rw [this.1]
  exact ⟨this.2.1, this.2.1⟩
theorem RR.ocn (h : RR n st mt) : (0 ≤ (st 0 7 0).toInt ∧ (st 0 7 0).toInt ≤ (100 : Nat)) ∧ (0 ≤ (mt 0 56 0).toInt ∧ (mt 0 56 0).toInt ≤ (100 : Nat)) := by
  have := h.2.2.2.2.2.2.2.2.2.2.2.2.1
  rw [this.1]
  exact ⟨this.2.1, this.2.1⟩
theorem RR.mall (h : RR n st mt) : mall st := by
  have hc := h.cok
  have ho := h.ocn.2
  obtain ⟨p1, p2, p3, p4, p5, p6⟩ := h.2.2.2.2.2.2.2.2.2.2.2.2.2.1
  have hm := h.2.2.2.2.2.2.2.2.2.2.2.2.2.2.2.1
  intro i hi
  rw [p1] at hi
  obtain ⟨q0, q1, q2, q3, -⟩ := p6 i hi
  obtain ⟨m1, m2, m3, m4, m5, m6⟩ := hm i hi
  unfold mok
  rw [q1, q2, q3]
  have h4 := (hc _ (xin_lt m1)).2
  refine ⟨m1, fun z => vp_in_iff.mpr ⟨(m5 z).1, by have := (m5 z).2; omega⟩, fun z => ?_⟩
  have z2 : mt 37 i 0 = 1 ∨ mt 37 i 0 = 2 ∨ mt 37 i 0 = 4 := Or.inr z
  exact vp_in_iff.mpr ⟨(m4 z2).1, by have := (m4 z2).2; omega⟩
theorem RR.step (h : RR n st mt) {d : Nat} (hd : d < 8) (h8 : ¬ bz (mt 8 d 0) = 0) : ¬ mt 11 d 0 = 0 := fun z => by
  have := ((h.2.2.2.2.1 d hd).2.2.2.2 h8).2.2.2
  rw [z] at this
  exact absurd this (by decide)
theorem RR.nall (h : RR n st mt) : nall mt := by
  have hc := h.cok
  have ho := h.ocn.2
  have hm := h.2.2.2.2.2.2.2.2.2.2.2.2.2.2.2.1
  intro i hi
  obtain ⟨m1, m2, m3, m4, m5, m6⟩ := hm i hi
  have h4 := (hc _ (xin_lt m1)).2
  refine ⟨m1, fun z => vp_in_iff.mpr ⟨(m4 z).1, by have := (m4 z).2; omega⟩, fun k1 k2 k3 k4 => ?_, fun z => h.step (xin_lt m1) (m6 z)⟩
  have a1 := lv_neT k1 (a := 1) (by decide)
  have a2 := lv_neT k2 (a := 2) (by decide)
  have a3 := lv_neT k3 (a := 3) (by decide)
  have a4 := lv_neT k4 (a := 4) (by decide)
  have z : mt 37 i 0 = 5 ∨ mt 37 i 0 = 6 := by
    have h5 : (5 : Int32).toInt = 5 := by decide
    have h6 : (6 : Int32).toInt = 6 := by decide
    by_cases e : (mt 37 i 0).toInt = 5
    · exact Or.inl (i32_ext (e.trans h5.symm))
    · exact Or.inr (i32_ext (by omega))
  exact vp_in_iff.mpr ⟨(m5 z).1, by have := (m5 z).2; omega⟩
theorem RR.bed (h : RR n st mt) {a1 : Int32} : ¬ (f_MO_isAt (xu mt 0 0 0 0) a1 2) = 0 → vp_in (mt 3 a1.toNatClampNeg 0) 4 := fun z => by
  obtain ⟨z1, z2⟩ := at_in z
  rw [xu_a (by decide)] at z2
  exact (h.2.2.1 _ (xin_lt z1)).2.2.2.2.2.2.1 (by rw [z2]; decide)
theorem RR.stp (h : RR n st mt) {a1 a2 : Int32} : ¬ (f_MO_isAt (xu mt 0 0 0 0) a1 2) = 0 → ¬ (f_MO_isChannel (xu mt 0 0 0 0) a1 a2) = 0 → ¬ (mt 19 ((4 * a1) + a2).toNatClampNeg 0) = 0 := fun z1 z2 z3 => by
  obtain ⟨hd8, -⟩ := at_in z1
  obtain ⟨-, hc1, hc2⟩ := chan_in z2
  rw [show xu mt 0 0 0 0 5 a1.toNatClampNeg 0 = mt 5 a1.toNatClampNeg 0 from xu_a (by decide)] at hc2
  have h5 := (h.cok _ (xin_lt hd8)).2
  have hc : vp_in a2 4 := vp_in_iff.mpr ⟨hc1, by omega⟩
  have hcn := i32_nat hc1
  rw [t4 hd8 hc] at z3
  have := ((h.2.2.2.2.2.1 _ (xin_lt hd8) _ (xin_lt hc)).1 (by omega)).2.2.2.2.1
  rw [z3] at this
  exact absurd this (by decide)
theorem RR.sst (h : RR n st mt) {a1 : Int32} : ¬ (f_MO_isAt (xu mt 0 0 0 0) a1 2) = 0 → ¬ (bz (mt 8 a1.toNatClampNeg 0)) = 0 → ¬ (mt 11 a1.toNatClampNeg 0) = 0 := fun z1 z2 => h.step (xin_lt (at_in z1).1) z2
end PRE
