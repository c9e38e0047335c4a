theorem bz_n {x : Int32} (h : ¬ bz x = 0) : bz x = 1 := (bz_01 x).resolve_left h
theorem t4 {x y : Int32} (h : vp_in x 8) (h' : vp_in y 4) : ((4 * x) + y).toNatClampNeg = 4 * x.toNatClampNeg + y.toNatClampNeg := by
  have e1 := i32_4c h h'
  obtain ⟨h1, h2⟩ := vp_in_iff.mp h
  obtain ⟨h3, h4⟩ := vp_in_iff.mp h'
  have e2 := i32_nat (x := (4 * x) + y) (by omega)
  have e3 := i32_nat h1
  have e4 := i32_nat h3
  omega
/-- long ago, in the class's number and in the reference's; else the same -/
def ago (x y : Int32) : Prop := x = y ∨ (x = -1000000 ∧ y = -1000000000)
/-! which places a fact reads; two states that agree there -/
def Ag (P : List (Nat × Nat)) (Q : List Nat) (st st' : XS) : Prop := ∀ a k i, ((a, k) ∈ P ∨ a ∈ Q) → st' a k i = st a k i
def agD (P : List (Nat × Nat)) (Q : List Nat) (W : List (Nat × Nat)) (K : List Nat) : Bool := P.all (fun p => !W.contains p && !K.contains p.1) && Q.all (fun a => !K.contains a && W.all (fun w => w.1 != a))
theorem agD_spec {P : List (Nat × Nat)} {Q : List Nat} {W : List (Nat × Nat)} {K : List Nat} (hd : agD P Q W K = true) {a k : Nat} (h : (a, k) ∈ P ∨ a ∈ Q) : (a, k) ∉ W ∧ a ∉ K := by
  simp only [agD, Bool.and_eq_true, List.all_eq_true, Bool.not_eq_true', bne_iff_ne, ne_eq, List.contains_eq_mem, decide_eq_false_iff_not] at hd
  rcases h with h | h
  · exact ⟨(hd.1 _ h).1, (hd.1 _ h).2⟩
  · exact ⟨fun hw => (hd.2 _ h).2 _ hw rfl, (hd.2 _ h).1⟩
theorem Ag.of {P : List (Nat × Nat)} {Q : List Nat} {W : List (Nat × Nat)} {K : List Nat} {st st' : XS} (hfr : ∀ {a k i : Nat}, (a, k) ∉ W → a ∉ K → st' a k i = st a k i) (hd : agD P Q W K = true) : Ag P Q st st' :=
  fun _ _ _ h => hfr (agD_spec hd h).1 (agD_spec hd h).2
theorem Ag.rf {P : List (Nat × Nat)} {Q : List Nat} {st : XS} : Ag P Q st st := fun _ _ _ _ => rfl
theorem Ag.tr {P : List (Nat × Nat)} {Q : List Nat} {s1 s2 s3 : XS} (h1 : Ag P Q s1 s2) (h2 : Ag P Q s2 s3) : Ag P Q s1 s3 := fun a k i h => (h2 a k i h).trans (h1 a k i h)
theorem Ag.w {P : List (Nat × Nat)} {Q : List Nat} {s1 st : XS} {a k i : Nat} {v : Int32} (h1 : Ag P Q s1 st) (hd : agD P Q [(a, k)] [] = true) : Ag P Q s1 (xu st a k i v) :=
  h1.tr (fun _ _ _ h => xu_f (fun e => (agD_spec hd h).1 (by rw [e]; exact List.mem_singleton.mpr rfl)))
theorem Ag.wa {P : List (Nat × Nat)} {Q : List Nat} {s1 st : XS} {a k i : Nat} {v : Int32} (h1 : Ag P Q s1 st) (hd : agD P Q [] [a] = true) : Ag P Q s1 (xu st a k i v) :=
  h1.tr (fun _ _ _ h => xu_a (fun e => (agD_spec hd h).2 (by rw [e]; exact List.mem_singleton.mpr rfl)))
def Ra (st mt : XS) : Prop := st 0 8 0 = mt 0 1 0 ∧ 0 ≤ (mt 0 1 0).toInt ∧ (mt 0 1 0).toInt ≤ 1000000000
theorem Ra_of {st mt st' mt' : XS} (h : Ra st mt) (hs : Ag [(0, 8)] [] st st') (hm : Ag [(0, 1)] [] mt mt') : Ra st' mt' := by
  have s0_8 : ∀ i, st' 0 8 i = st 0 8 i := fun i => hs 0 8 i (by decide)
  have m0_1 : ∀ i, mt' 0 1 i = mt 0 1 i := fun i => hm 0 1 i (by decide)
  unfold Ra at h ⊢
  simp only [s0_8, m0_1]
  exact h
def Rb (st mt : XS) : Prop := ∀ j, j < 4 → st 2 j 0 = mt 1 j 0
theorem Rb_of {st mt st' mt' : XS} (h : Rb st mt) (hs : Ag [] [2] st st') (hm : Ag [] [1] mt mt') : Rb st' mt' := by
  have s2 : ∀ k i, st' 2 k i = st 2 k i := fun k i => hs 2 k i (by simp)
  have m1 : ∀ k i, mt' 1 k i = mt 1 k i := fun k i => hm 1 k i (by simp)
  unfold Rb at h ⊢
  simp only [s2, m1]
  exact h
def Rd (st mt : XS) : Prop := ∀ d : Nat, d < 8 → st 8 2 d = mt 2 d 0 ∧ st 8 3 d = mt 3 d 0 ∧ st 8 4 d = mt 4 d 0 ∧ st 8 5 d = mt 5 d 0 ∧ st 8 6 d = mt 6 d 0 ∧ (0 ≤ (mt 5 d 0).toInt ∧ (mt 5 d 0).toInt ≤ (4 : Nat)) ∧ (¬ mt 2 d 0 = 0 → vp_in (mt 3 d 0) 4) ∧ (mt 2 d 0 = 0 → mt 3 d 0 = -1) ∧ (¬ mt 6 d 0 = 0 → mt 2 d 0 = 2)
theorem Rd_of {st mt st' mt' : XS} (h : Rd st mt) (hs : Ag [(8, 2), (8, 3), (8, 4), (8, 5), (8, 6)] [] st st') (hm : Ag [] [2, 3, 4, 5, 6] mt mt') : Rd st' mt' := by
  have s8_2 : ∀ i, st' 8 2 i = st 8 2 i := fun i => hs 8 2 i (by decide)
  have s8_3 : ∀ i, st' 8 3 i = st 8 3 i := fun i => hs 8 3 i (by decide)
  have s8_4 : ∀ i, st' 8 4 i = st 8 4 i := fun i => hs 8 4 i (by decide)
  have s8_5 : ∀ i, st' 8 5 i = st 8 5 i := fun i => hs 8 5 i (by decide)
  have s8_6 : ∀ i, st' 8 6 i = st 8 6 i := fun i => hs 8 6 i (by decide)
  have m2 : ∀ k i, mt' 2 k i = mt 2 k i := fun k i => hm 2 k i (by simp)
  have m3 : ∀ k i, mt' 3 k i = mt 3 k i := fun k i => hm 3 k i (by simp)
  have m4 : ∀ k i, mt' 4 k i = mt 4 k i := fun k i => hm 4 k i (by simp)
  have m5 : ∀ k i, mt' 5 k i = mt 5 k i := fun k i => hm 5 k i (by simp)
  have m6 : ∀ k i, mt' 6 k i = mt 6 k i := fun k i => hm 6 k i (by simp)
  unfold Rd at h ⊢
  simp only [s8_2, s8_3, s8_4, s8_5, s8_6, m2, m3, m4, m5, m6]
  exact h
def Rn (st mt : XS) : Prop := ∀ d : Nat, d < 8 → ago (st 8 7 d) (mt 15 d 0) ∧ ago (st 8 8 d) (mt 35 d 0)
theorem Rn_of {st mt st' mt' : XS} (h : Rn st mt) (hs : Ag [(8, 7), (8, 8)] [] st st') (hm : Ag [] [15, 35] mt mt') : Rn st' mt' := by
  have s8_7 : ∀ i, st' 8 7 i = st 8 7 i := fun i => hs 8 7 i (by decide)
  have s8_8 : ∀ i, st' 8 8 i = st 8 8 i := fun i => hs 8 8 i (by decide)
  have m15 : ∀ k i, mt' 15 k i = mt 15 k i := fun k i => hm 15 k i (by simp)
  have m35 : ∀ k i, mt' 35 k i = mt 35 k i := fun k i => hm 35 k i (by simp)
  unfold Rn at h ⊢
  simp only [s8_7, s8_8, m15, m35]
  exact h
def Rt (st mt : XS) : Prop := ∀ d : Nat, d < 8 → bz (st 10 1 d) = bz (mt 8 d 0) ∧ st 10 2 d = mt 12 d 0 ∧ bz (st 10 3 d) = bz (mt 7 d 0) ∧ ((st 10 4 d = mt 13 d 0 ∧ st 10 5 d = mt 14 d 0 ∧ 0 ≤ (mt 13 d 0).toInt) ∨ (st 10 5 d = -1000000 ∧ mt 14 d 0 = -1000000000)) ∧ (¬ bz (mt 8 d 0) = 0 → st 11 0 (200 + d) = mt 9 d 0 ∧ st 11 1 (200 + d) = mt 10 d 0 ∧ st 11 2 (200 + d) = mt 11 d 0 ∧ 1 ≤ (mt 11 d 0).toInt)
theorem Rt_of {st mt st' mt' : XS} (h : Rt st mt) (hs : Ag [(10, 1), (10, 2), (10, 3), (10, 4), (10, 5), (11, 0), (11, 1), (11, 2)] [] st st') (hm : Ag [] [7, 8, 9, 10, 11, 12, 13, 14] mt mt') : Rt st' mt' := by
  have s10_1 : ∀ i, st' 10 1 i = st 10 1 i := fun i => hs 10 1 i (by decide)
  have s10_2 : ∀ i, st' 10 2 i = st 10 2 i := fun i => hs 10 2 i (by decide)
  have s10_3 : ∀ i, st' 10 3 i = st 10 3 i := fun i => hs 10 3 i (by decide)
  have s10_4 : ∀ i, st' 10 4 i = st 10 4 i := fun i => hs 10 4 i (by decide)
  have s10_5 : ∀ i, st' 10 5 i = st 10 5 i := fun i => hs 10 5 i (by decide)
  have s11_0 : ∀ i, st' 11 0 i = st 11 0 i := fun i => hs 11 0 i (by decide)
  have s11_1 : ∀ i, st' 11 1 i = st 11 1 i := fun i => hs 11 1 i (by decide)
  have s11_2 : ∀ i, st' 11 2 i = st 11 2 i := fun i => hs 11 2 i (by decide)
  have m7 : ∀ k i, mt' 7 k i = mt 7 k i := fun k i => hm 7 k i (by simp)
  have m8 : ∀ k i, mt' 8 k i = mt 8 k i := fun k i => hm 8 k i (by simp)
  have m9 : ∀ k i, mt' 9 k i = mt 9 k i := fun k i => hm 9 k i (by simp)
  have m10 : ∀ k i, mt' 10 k i = mt 10 k i := fun k i => hm 10 k i (by simp)
  have m11 : ∀ k i, mt' 11 k i = mt 11 k i := fun k i => hm 11 k i (by simp)
  have m12 : ∀ k i, mt' 12 k i = mt 12 k i := fun k i => hm 12 k i (by simp)
  have m13 : ∀ k i, mt' 13 k i = mt 13 k i := fun k i => hm 13 k i (by simp)
  have m14 : ∀ k i, mt' 14 k i = mt 14 k i := fun k i => hm 14 k i (by simp)
  unfold Rt at h ⊢
  simp only [s10_1, s10_2, s10_3, s10_4, s10_5, s11_0, s11_1, s11_2, m7, m8, m9, m10, m11, m12, m13, m14]
  exact h
def Rc (st mt : XS) : Prop := ∀ d : Nat, d < 8 → ∀ c : Nat, c < 4 → ((c : Int) < (mt 5 d 0).toInt → st 12 3 (20 * d + 4 * c) = mt 16 (4 * d + c) 0 ∧ st 11 0 (20 * d + 4 * c) = mt 17 (4 * d + c) 0 ∧ st 11 1 (20 * d + 4 * c) = mt 18 (4 * d + c) 0 ∧ st 11 2 (20 * d + 4 * c) = mt 19 (4 * d + c) 0 ∧ 1 ≤ (mt 19 (4 * d + c) 0).toInt ∧ (bz (st 13 0 (20 * d + 4 * c)) = 0 ↔ mt 20 (4 * d + c) 0 = 0) ∧ (¬ mt 20 (4 * d + c) 0 = 0 → st 13 1 (20 * d + 4 * c) = mt 20 (4 * d + c) 0 ∧ st 13 2 (20 * d + 4 * c) = mt 21 (4 * d + c) 0 ∧ st 13 3 (20 * d + 4 * c) = mt 22 (4 * d + c) 0)) ∧ (¬ (c : Int) < (mt 5 d 0).toInt → mt 20 (4 * d + c) 0 = 0) ∧ 0 ≤ (mt 20 (4 * d + c) 0).toInt
theorem Rc_of {st mt st' mt' : XS} (h : Rc st mt) (hs : Ag [(11, 0), (11, 1), (11, 2), (12, 3), (13, 0), (13, 1), (13, 2), (13, 3)] [] st st') (hm : Ag [] [5, 16, 17, 18, 19, 20, 21, 22] mt mt') : Rc st' mt' := by
  have s11_0 : ∀ i, st' 11 0 i = st 11 0 i := fun i => hs 11 0 i (by decide)
  have s11_1 : ∀ i, st' 11 1 i = st 11 1 i := fun i => hs 11 1 i (by decide)
  have s11_2 : ∀ i, st' 11 2 i = st 11 2 i := fun i => hs 11 2 i (by decide)
  have s12_3 : ∀ i, st' 12 3 i = st 12 3 i := fun i => hs 12 3 i (by decide)
  have s13_0 : ∀ i, st' 13 0 i = st 13 0 i := fun i => hs 13 0 i (by decide)
  have s13_1 : ∀ i, st' 13 1 i = st 13 1 i := fun i => hs 13 1 i (by decide)
  have s13_2 : ∀ i, st' 13 2 i = st 13 2 i := fun i => hs 13 2 i (by decide)
  have s13_3 : ∀ i, st' 13 3 i = st 13 3 i := fun i => hs 13 3 i (by decide)
  have m5 : ∀ k i, mt' 5 k i = mt 5 k i := fun k i => hm 5 k i (by simp)
  have m16 : ∀ k i, mt' 16 k i = mt 16 k i := fun k i => hm 16 k i (by simp)
  have m17 : ∀ k i, mt' 17 k i = mt 17 k i := fun k i => hm 17 k i (by simp)
  have m18 : ∀ k i, mt' 18 k i = mt 18 k i := fun k i => hm 18 k i (by simp)
  have m19 : ∀ k i, mt' 19 k i = mt 19 k i := fun k i => hm 19 k i (by simp)
  have m20 : ∀ k i, mt' 20 k i = mt 20 k i := fun k i => hm 20 k i (by simp)
  have m21 : ∀ k i, mt' 21 k i = mt 21 k i := fun k i => hm 21 k i (by simp)
  have m22 : ∀ k i, mt' 22 k i = mt 22 k i := fun k i => hm 22 k i (by simp)
  unfold Rc at h ⊢
  simp only [s11_0, s11_1, s11_2, s12_3, s13_0, s13_1, s13_2, s13_3, m5, m16, m17, m18, m19, m20, m21, m22]
  exact h
def Rq (mt : XS) : Prop := ∀ d : Nat, d < 8 → ∀ c : Nat, c < 4 → ¬ (mt 2 d 0 = 2 ∧ (c : Int) < (mt 5 d 0).toInt) → bz (mt 23 (4 * d + c) 0) = 0 ∧ bz (mt 30 (4 * d + c) 0) = 0 ∧ mt 33 (4 * d + c) 0 = 0 ∧ mt 29 (4 * d + c) 0 = -1000000000
theorem Rq_of {mt mt' : XS} (h : Rq mt) (hm : Ag [] [2, 5, 23, 29, 30, 33] mt mt') : Rq mt' := by
  have m2 : ∀ k i, mt' 2 k i = mt 2 k i := fun k i => hm 2 k i (by simp)
  have m5 : ∀ k i, mt' 5 k i = mt 5 k i := fun k i => hm 5 k i (by simp)
  have m23 : ∀ k i, mt' 23 k i = mt 23 k i := fun k i => hm 23 k i (by simp)
  have m29 : ∀ k i, mt' 29 k i = mt 29 k i := fun k i => hm 29 k i (by simp)
  have m30 : ∀ k i, mt' 30 k i = mt 30 k i := fun k i => hm 30 k i (by simp)
  have m33 : ∀ k i, mt' 33 k i = mt 33 k i := fun k i => hm 33 k i (by simp)
  unfold Rq at h ⊢
  simp only [m2, m5, m23, m29, m30, m33]
  exact h
def Rv (st mt : XS) : Prop := ∀ d : Nat, d < 8 → ∀ c : Nat, c < 4 → bz (st 12 4 (20 * d + 4 * c)) = bz (mt 23 (4 * d + c) 0) ∧ (¬ bz (mt 23 (4 * d + c) 0) = 0 → st 12 5 (20 * d + 4 * c) = mt 25 (4 * d + c) 0 ∧ st 12 6 (20 * d + 4 * c) = mt 26 (4 * d + c) 0)
theorem Rv_of {st mt st' mt' : XS} (h : Rv st mt) (hs : Ag [(12, 4), (12, 5), (12, 6)] [] st st') (hm : Ag [] [23, 25, 26] mt mt') : Rv st' mt' := by
  have s12_4 : ∀ i, st' 12 4 i = st 12 4 i := fun i => hs 12 4 i (by decide)
  have s12_5 : ∀ i, st' 12 5 i = st 12 5 i := fun i => hs 12 5 i (by decide)
  have s12_6 : ∀ i, st' 12 6 i = st 12 6 i := fun i => hs 12 6 i (by decide)
  have m23 : ∀ k i, mt' 23 k i = mt 23 k i := fun k i => hm 23 k i (by simp)
  have m25 : ∀ k i, mt' 25 k i = mt 25 k i := fun k i => hm 25 k i (by simp)
  have m26 : ∀ k i, mt' 26 k i = mt 26 k i := fun k i => hm 26 k i (by simp)
  unfold Rv at h ⊢
  simp only [s12_4, s12_5, s12_6, m23, m25, m26]
  exact h
def Rw (st mt : XS) : Prop := ∀ d : Nat, d < 8 → ∀ c : Nat, c < 4 → (mt 6 d 0 = 0 → bz (mt 24 (4 * d + c) 0) = 0) ∧ (¬ mt 6 d 0 = 0 → (c : Int) < (mt 5 d 0).toInt → bz (st 12 7 (20 * d + 4 * c)) = bz (mt 24 (4 * d + c) 0) ∧ (¬ bz (mt 24 (4 * d + c) 0) = 0 → ¬ bz (mt 23 (4 * d + c) 0) = 0 ∧ st 12 8 (20 * d + 4 * c) = mt 27 (4 * d + c) 0))
theorem Rw_of {st mt st' mt' : XS} (h : Rw st mt) (hs : Ag [(12, 7), (12, 8)] [] st st') (hm : Ag [] [5, 6, 23, 24, 27] mt mt') : Rw st' mt' := by
  have s12_7 : ∀ i, st' 12 7 i = st 12 7 i := fun i => hs 12 7 i (by decide)
  have s12_8 : ∀ i, st' 12 8 i = st 12 8 i := fun i => hs 12 8 i (by decide)
  have m5 : ∀ k i, mt' 5 k i = mt 5 k i := fun k i => hm 5 k i (by simp)
  have m6 : ∀ k i, mt' 6 k i = mt 6 k i := fun k i => hm 6 k i (by simp)
  have m23 : ∀ k i, mt' 23 k i = mt 23 k i := fun k i => hm 23 k i (by simp)
  have m24 : ∀ k i, mt' 24 k i = mt 24 k i := fun k i => hm 24 k i (by simp)
  have m27 : ∀ k i, mt' 27 k i = mt 27 k i := fun k i => hm 27 k i (by simp)
  unfold Rw at h ⊢
  simp only [s12_7, s12_8, m5, m6, m23, m24, m27]
  exact h
def Rl (st mt : XS) : Prop := ∀ d : Nat, d < 8 → ∀ c : Nat, c < 4 → (¬ bz (st 13 4 (20 * d + 4 * c)) = 0 ↔ ¬ mt 20 (4 * d + c) 0 = 0 ∧ ¬ bz (mt 23 (4 * d + c) 0) = 0 ∧ ¬ mt 25 (4 * d + c) 0 ≤ mt 21 (4 * d + c) 0) ∧ (¬ bz (st 13 4 (20 * d + 4 * c)) = 0 → st 13 5 (20 * d + 4 * c) = mt 28 (4 * d + c) 0 ∧ 0 ≤ (mt 28 (4 * d + c) 0).toInt) ∧ ((st 13 6 (20 * d + 4 * c) = mt 29 (4 * d + c) 0 ∧ 0 ≤ (mt 29 (4 * d + c) 0).toInt) ∨ (st 13 6 (20 * d + 4 * c) = 0 ∧ mt 29 (4 * d + c) 0 = -1000000000)) ∧ bz (st 13 7 (20 * d + 4 * c)) = bz (mt 30 (4 * d + c) 0) ∧ bz (st 13 8 (20 * d + 4 * c)) = bz (mt 31 (4 * d + c) 0) ∧ (bz (mt 30 (4 * d + c) 0) = 0 → bz (mt 31 (4 * d + c) 0) = 0) ∧ (¬ bz (mt 30 (4 * d + c) 0) = 0 → ¬ mt 20 (4 * d + c) 0 = 0 ∧ st 13 9 (20 * d + 4 * c) = mt 32 (4 * d + c) 0)
theorem Rl_of {st mt st' mt' : XS} (h : Rl st mt) (hs : Ag [(13, 4), (13, 5), (13, 6), (13, 7), (13, 8), (13, 9)] [] st st') (hm : Ag [] [20, 21, 23, 25, 28, 29, 30, 31, 32] mt mt') : Rl st' mt' := by
  have s13_4 : ∀ i, st' 13 4 i = st 13 4 i := fun i => hs 13 4 i (by decide)
  have s13_5 : ∀ i, st' 13 5 i = st 13 5 i := fun i => hs 13 5 i (by decide)
  have s13_6 : ∀ i, st' 13 6 i = st 13 6 i := fun i => hs 13 6 i (by decide)
  have s13_7 : ∀ i, st' 13 7 i = st 13 7 i := fun i => hs 13 7 i (by decide)
  have s13_8 : ∀ i, st' 13 8 i = st 13 8 i := fun i => hs 13 8 i (by decide)
  have s13_9 : ∀ i, st' 13 9 i = st 13 9 i := fun i => hs 13 9 i (by decide)
  have m20 : ∀ k i, mt' 20 k i = mt 20 k i := fun k i => hm 20 k i (by simp)
  have m21 : ∀ k i, mt' 21 k i = mt 21 k i := fun k i => hm 21 k i (by simp)
  have m23 : ∀ k i, mt' 23 k i = mt 23 k i := fun k i => hm 23 k i (by simp)
  have m25 : ∀ k i, mt' 25 k i = mt 25 k i := fun k i => hm 25 k i (by simp)
  have m28 : ∀ k i, mt' 28 k i = mt 28 k i := fun k i => hm 28 k i (by simp)
  have m29 : ∀ k i, mt' 29 k i = mt 29 k i := fun k i => hm 29 k i (by simp)
  have m30 : ∀ k i, mt' 30 k i = mt 30 k i := fun k i => hm 30 k i (by simp)
  have m31 : ∀ k i, mt' 31 k i = mt 31 k i := fun k i => hm 31 k i (by simp)
  have m32 : ∀ k i, mt' 32 k i = mt 32 k i := fun k i => hm 32 k i (by simp)
  unfold Rl at h ⊢
  simp only [s13_4, s13_5, s13_6, s13_7, s13_8, s13_9, m20, m21, m23, m25, m28, m29, m30, m31, m32]
  exact h
def Rk (st mt : XS) : Prop := ∀ d : Nat, d < 8 → ∀ c : Nat, c < 4 → ((mt 33 (4 * d + c) 0 = 0 ∧ st 14 0 (20 * d + 4 * c) = -1 ∧ bz (st 14 1 (20 * d + 4 * c)) = 0) ∨ (mt 33 (4 * d + c) 0 = 1 ∧ bz (st 14 1 (20 * d + 4 * c)) = 0 ∧ st 14 0 (20 * d + 4 * c) = mt 34 (4 * d + c) 0 ∧ 0 ≤ (mt 34 (4 * d + c) 0).toInt) ∨ (mt 33 (4 * d + c) 0 = 2 ∧ bz (st 14 1 (20 * d + 4 * c)) = 1 ∧ bz (st 14 2 (20 * d + 4 * c)) = 0 ∧ st 14 0 (20 * d + 4 * c) = mt 34 (4 * d + c) 0 ∧ 0 ≤ (mt 34 (4 * d + c) 0).toInt) ∨ (mt 33 (4 * d + c) 0 = 3 ∧ bz (st 14 1 (20 * d + 4 * c)) = 1 ∧ bz (st 14 2 (20 * d + 4 * c)) = 1 ∧ st 14 0 (20 * d + 4 * c) = mt 34 (4 * d + c) 0 ∧ 0 ≤ (mt 34 (4 * d + c) 0).toInt))
theorem Rk_of {st mt st' mt' : XS} (h : Rk st mt) (hs : Ag [(14, 0), (14, 1), (14, 2)] [] st st') (hm : Ag [] [33, 34] mt mt') : Rk st' mt' := by
  have s14_0 : ∀ i, st' 14 0 i = st 14 0 i := fun i => hs 14 0 i (by decide)
  have s14_1 : ∀ i, st' 14 1 i = st 14 1 i := fun i => hs 14 1 i (by decide)
  have s14_2 : ∀ i, st' 14 2 i = st 14 2 i := fun i => hs 14 2 i (by decide)
  have m33 : ∀ k i, mt' 33 k i = mt 33 k i := fun k i => hm 33 k i (by simp)
  have m34 : ∀ k i, mt' 34 k i = mt 34 k i := fun k i => hm 34 k i (by simp)
  unfold Rk at h ⊢
  simp only [s14_0, s14_1, s14_2, m33, m34]
  exact h
def Ri (st mt : XS) : Prop := st 0 6 0 = mt 0 48 0 ∧ (0 ≤ (mt 0 48 0).toInt ∧ (mt 0 48 0).toInt ≤ (16 : Nat)) ∧ ∀ j : Nat, j < 16 → ((j : Int) < (mt 0 48 0).toInt → (∃ d c : Nat, d < 8 ∧ c < 4 ∧ st 15 0 j = nI d ∧ st 15 1 j = nI c ∧ mt 44 j 0 = nI (4 * d + c)) ∧ st 15 2 j = mt 45 j 0 ∧ st 15 3 j = mt 46 j 0 ∧ st 15 4 j = mt 47 j 0 ∧ ((mt 47 j 0 = -1 ∧ st 15 7 j = -1000000) ∨ (0 ≤ (mt 47 j 0).toInt ∧ st 15 5 j = mt 48 j 0 ∧ st 15 6 j = mt 49 j 0 ∧ st 15 7 j = mt 50 j 0))) ∧ (¬ (j : Int) < (mt 0 48 0).toInt → st 15 4 j = -1 ∧ st 15 7 j = -1000000)
theorem Ri_of {st mt st' mt' : XS} (h : Ri st mt) (hs : Ag [(0, 6), (15, 0), (15, 1), (15, 2), (15, 3), (15, 4), (15, 5), (15, 6), (15, 7)] [] st st') (hm : Ag [(0, 48)] [44, 45, 46, 47, 48, 49, 50] mt mt') : Ri st' mt' := by
  have s0_6 : ∀ i, st' 0 6 i = st 0 6 i := fun i => hs 0 6 i (by decide)
  have s15_0 : ∀ i, st' 15 0 i = st 15 0 i := fun i => hs 15 0 i (by decide)
  have s15_1 : ∀ i, st' 15 1 i = st 15 1 i := fun i => hs 15 1 i (by decide)
  have s15_2 : ∀ i, st' 15 2 i = st 15 2 i := fun i => hs 15 2 i (by decide)
  have s15_3 : ∀ i, st' 15 3 i = st 15 3 i := fun i => hs 15 3 i (by decide)
  have s15_4 : ∀ i, st' 15 4 i = st 15 4 i := fun i => hs 15 4 i (by decide)
  have s15_5 : ∀ i, st' 15 5 i = st 15 5 i := fun i => hs 15 5 i (by decide)
  have s15_6 : ∀ i, st' 15 6 i = st 15 6 i := fun i => hs 15 6 i (by decide)
  have s15_7 : ∀ i, st' 15 7 i = st 15 7 i := fun i => hs 15 7 i (by decide)
  have m0_48 : ∀ i, mt' 0 48 i = mt 0 48 i := fun i => hm 0 48 i (by decide)
  have m44 : ∀ k i, mt' 44 k i = mt 44 k i := fun k i => hm 44 k i (by simp)
  have m45 : ∀ k i, mt' 45 k i = mt 45 k i := fun k i => hm 45 k i (by simp)
  have m46 : ∀ k i, mt' 46 k i = mt 46 k i := fun k i => hm 46 k i (by simp)
  have m47 : ∀ k i, mt' 47 k i = mt 47 k i := fun k i => hm 47 k i (by simp)
  have m48 : ∀ k i, mt' 48 k i = mt 48 k i := fun k i => hm 48 k i (by simp)
  have m49 : ∀ k i, mt' 49 k i = mt 49 k i := fun k i => hm 49 k i (by simp)
  have m50 : ∀ k i, mt' 50 k i = mt 50 k i := fun k i => hm 50 k i (by simp)
  unfold Ri at h ⊢
  simp only [s0_6, s15_0, s15_1, s15_2, s15_3, s15_4, s15_5, s15_6, s15_7, m0_48, m44, m45, m46, m47, m48, m49, m50]
  exact h
def Ro (st mt : XS) : Prop := st 0 7 0 = mt 0 56 0 ∧ (0 ≤ (mt 0 56 0).toInt ∧ (mt 0 56 0).toInt ≤ (100 : Nat)) ∧ ∀ j : Nat, j < 100 → ((j : Int) < (mt 0 56 0).toInt → st 16 0 j = mt 51 j 0 ∧ 0 ≤ (mt 51 j 0).toInt ∧ st 16 1 j = mt 52 j 0 ∧ st 16 2 j = mt 53 j 0 ∧ st 16 3 j = mt 54 j 0 ∧ (mt 54 j 0 = -1 ∨ 0 ≤ (mt 54 j 0).toInt)) ∧ (¬ (j : Int) < (mt 0 56 0).toInt → st 16 3 j = -1) ∧ st 16 4 j = mt 55 j 0
theorem Ro_of {st mt st' mt' : XS} (h : Ro st mt) (hs : Ag [(0, 7), (16, 0), (16, 1), (16, 2), (16, 3), (16, 4)] [] st st') (hm : Ag [(0, 56)] [51, 52, 53, 54, 55] mt mt') : Ro st' mt' := by
  have s0_7 : ∀ i, st' 0 7 i = st 0 7 i := fun i => hs 0 7 i (by decide)
  have s16_0 : ∀ i, st' 16 0 i = st 16 0 i := fun i => hs 16 0 i (by decide)
  have s16_1 : ∀ i, st' 16 1 i = st 16 1 i := fun i => hs 16 1 i (by decide)
  have s16_2 : ∀ i, st' 16 2 i = st 16 2 i := fun i => hs 16 2 i (by decide)
  have s16_3 : ∀ i, st' 16 3 i = st 16 3 i := fun i => hs 16 3 i (by decide)
  have s16_4 : ∀ i, st' 16 4 i = st 16 4 i := fun i => hs 16 4 i (by decide)
  have m0_56 : ∀ i, mt' 0 56 i = mt 0 56 i := fun i => hm 0 56 i (by decide)
  have m51 : ∀ k i, mt' 51 k i = mt 51 k i := fun k i => hm 51 k i (by simp)
  have m52 : ∀ k i, mt' 52 k i = mt 52 k i := fun k i => hm 52 k i (by simp)
  have m53 : ∀ k i, mt' 53 k i = mt 53 k i := fun k i => hm 53 k i (by simp)
  have m54 : ∀ k i, mt' 54 k i = mt 54 k i := fun k i => hm 54 k i (by simp)
  have m55 : ∀ k i, mt' 55 k i = mt 55 k i := fun k i => hm 55 k i (by simp)
  unfold Ro at h ⊢
  simp only [s0_7, s16_0, s16_1, s16_2, s16_3, s16_4, m0_56, m51, m52, m53, m54, m55]
  exact h
def Rp (st mt : XS) : Prop := st 5 1 0 = mt 0 39 0 ∧ (0 ≤ (mt 0 39 0).toInt ∧ (mt 0 39 0).toInt ≤ (64 : Nat)) ∧ st 5 3 0 = mt 0 3 0 ∧ (∀ j, j < 65 → (st 6 j 0).toNatClampNeg < 65) ∧ (∀ i j, i < 65 → j < 65 → (st 6 i 0).toNatClampNeg = (st 6 j 0).toNatClampNeg → i = j) ∧ ∀ j : Nat, (j : Int) < (mt 0 39 0).toInt → st 7 0 (st 6 j 0).toNatClampNeg = mt 36 j 0 ∧ st 7 1 (st 6 j 0).toNatClampNeg = mt 37 j 0 ∧ st 7 2 (st 6 j 0).toNatClampNeg = mt 38 j 0 ∧ st 7 3 (st 6 j 0).toNatClampNeg = mt 39 j 0 ∧ st 7 4 (st 6 j 0).toNatClampNeg = mt 40 j 0 ∧ st 7 5 (st 6 j 0).toNatClampNeg = mt 41 j 0 ∧ (mt 37 j 0 = 1 → st 7 6 (st 6 j 0).toNatClampNeg = mt 42 j 0 ∧ st 7 7 (st 6 j 0).toNatClampNeg = mt 43 j 0)
theorem Rp_of {st mt st' mt' : XS} (h : Rp st mt) (hs : Ag [(5, 1), (5, 3), (7, 0), (7, 1), (7, 2), (7, 3), (7, 4), (7, 5), (7, 6), (7, 7)] [6] st st') (hm : Ag [(0, 3), (0, 39)] [36, 37, 38, 39, 40, 41, 42, 43] mt mt') : Rp st' mt' := by
  have s5_1 : ∀ i, st' 5 1 i = st 5 1 i := fun i => hs 5 1 i (by decide)
  have s5_3 : ∀ i, st' 5 3 i = st 5 3 i := fun i => hs 5 3 i (by decide)
  have s7_0 : ∀ i, st' 7 0 i = st 7 0 i := fun i => hs 7 0 i (by decide)
  have s7_1 : ∀ i, st' 7 1 i = st 7 1 i := fun i => hs 7 1 i (by decide)
  have s7_2 : ∀ i, st' 7 2 i = st 7 2 i := fun i => hs 7 2 i (by decide)
  have s7_3 : ∀ i, st' 7 3 i = st 7 3 i := fun i => hs 7 3 i (by decide)
  have s7_4 : ∀ i, st' 7 4 i = st 7 4 i := fun i => hs 7 4 i (by decide)
  have s7_5 : ∀ i, st' 7 5 i = st 7 5 i := fun i => hs 7 5 i (by decide)
  have s7_6 : ∀ i, st' 7 6 i = st 7 6 i := fun i => hs 7 6 i (by decide)
  have s7_7 : ∀ i, st' 7 7 i = st 7 7 i := fun i => hs 7 7 i (by decide)
  have s6 : ∀ k i, st' 6 k i = st 6 k i := fun k i => hs 6 k i (by simp)
  have m0_3 : ∀ i, mt' 0 3 i = mt 0 3 i := fun i => hm 0 3 i (by decide)
  have m0_39 : ∀ i, mt' 0 39 i = mt 0 39 i := fun i => hm 0 39 i (by decide)
  have m36 : ∀ k i, mt' 36 k i = mt 36 k i := fun k i => hm 36 k i (by simp)
  have m37 : ∀ k i, mt' 37 k i = mt 37 k i := fun k i => hm 37 k i (by simp)
  have m38 : ∀ k i, mt' 38 k i = mt 38 k i := fun k i => hm 38 k i (by simp)
  have m39 : ∀ k i, mt' 39 k i = mt 39 k i := fun k i => hm 39 k i (by simp)
  have m40 : ∀ k i, mt' 40 k i = mt 40 k i := fun k i => hm 40 k i (by simp)
  have m41 : ∀ k i, mt' 41 k i = mt 41 k i := fun k i => hm 41 k i (by simp)
  have m42 : ∀ k i, mt' 42 k i = mt 42 k i := fun k i => hm 42 k i (by simp)
  have m43 : ∀ k i, mt' 43 k i = mt 43 k i := fun k i => hm 43 k i (by simp)
  unfold Rp at h ⊢
  simp only [s5_1, s5_3, s7_0, s7_1, s7_2, s7_3, s7_4, s7_5, s7_6, s7_7, s6, m0_3, m0_39, m36, m37, m38, m39, m40, m41, m42, m43]
  exact h
def Rs (st mt : XS) : Prop := st 5 2 0 = mt 0 2 0 ∧ 0 ≤ (mt 0 2 0).toInt ∧ (∀ j : Nat, (j : Int) < (mt 0 39 0).toInt → 0 ≤ (mt 36 j 0).toInt ∧ (mt 36 j 0).toInt < (mt 0 2 0).toInt) ∧ ∀ i j : Nat, i < j → (j : Int) < (mt 0 39 0).toInt → (mt 36 i 0).toInt < (mt 36 j 0).toInt
theorem Rs_of {st mt st' mt' : XS} (h : Rs st mt) (hs : Ag [(5, 2)] [] st st') (hm : Ag [(0, 2), (0, 39)] [36] mt mt') : Rs st' mt' := by
  have s5_2 : ∀ i, st' 5 2 i = st 5 2 i := fun i => hs 5 2 i (by decide)
  have m0_2 : ∀ i, mt' 0 2 i = mt 0 2 i := fun i => hm 0 2 i (by decide)
  have m0_39 : ∀ i, mt' 0 39 i = mt 0 39 i := fun i => hm 0 39 i (by decide)
  have m36 : ∀ k i, mt' 36 k i = mt 36 k i := fun k i => hm 36 k i (by simp)
  unfold Rs at h ⊢
  simp only [s5_2, m0_2, m0_39, m36]
  exact h
def Rm (mt : XS) : Prop := ∀ j : Nat, (j : Int) < (mt 0 39 0).toInt → vp_in (mt 38 j 0) 8 ∧ (1 ≤ (mt 37 j 0).toInt ∧ (mt 37 j 0).toInt ≤ 6) ∧ mt 2 (mt 38 j 0).toNatClampNeg 0 = 2 ∧ ((mt 37 j 0 = 1 ∨ mt 37 j 0 = 2 ∨ mt 37 j 0 = 4) → 0 ≤ (mt 39 j 0).toInt ∧ (mt 39 j 0).toInt < (mt 5 (mt 38 j 0).toNatClampNeg 0).toInt) ∧ ((mt 37 j 0 = 5 ∨ mt 37 j 0 = 6) → 0 ≤ (mt 39 j 0).toInt ∧ (mt 39 j 0).toInt < (mt 0 56 0).toInt) ∧ (mt 37 j 0 = 5 → ¬ bz (mt 8 (mt 38 j 0).toNatClampNeg 0) = 0)
theorem Rm_of {mt mt' : XS} (h : Rm mt) (hm : Ag [(0, 39), (0, 56)] [2, 5, 8, 37, 38, 39] mt mt') : Rm mt' := by
  have m0_39 : ∀ i, mt' 0 39 i = mt 0 39 i := fun i => hm 0 39 i (by decide)
  have m0_56 : ∀ i, mt' 0 56 i = mt 0 56 i := fun i => hm 0 56 i (by decide)
  have m2 : ∀ k i, mt' 2 k i = mt 2 k i := fun k i => hm 2 k i (by simp)
  have m5 : ∀ k i, mt' 5 k i = mt 5 k i := fun k i => hm 5 k i (by simp)
  have m8 : ∀ k i, mt' 8 k i = mt 8 k i := fun k i => hm 8 k i (by simp)
  have m37 : ∀ k i, mt' 37 k i = mt 37 k i := fun k i => hm 37 k i (by simp)
  have m38 : ∀ k i, mt' 38 k i = mt 38 k i := fun k i => hm 38 k i (by simp)
  have m39 : ∀ k i, mt' 39 k i = mt 39 k i := fun k i => hm 39 k i (by simp)
  unfold Rm at h ⊢
  simp only [m0_39, m0_56, m2, m5, m8, m37, m38, m39]
  exact h
def Rz (mt : XS) : Prop := ∀ d : Nat, d < 8 → ∀ c : Nat, c < 4 → mt 2 d 0 = 2 → (c : Int) < (mt 5 d 0).toInt → (bz (mt 30 (4 * d + c) 0) = 0 → ¬ (¬ mt 20 (4 * d + c) 0 ≤ 0 ∧ (¬ bz (mt 23 (4 * d + c) 0) = 0 ∧ ¬ mt 25 (4 * d + c) 0 ≤ mt 21 (4 * d + c) 0) ∧ ¬ mt 0 1 0 < mt 29 (4 * d + c) 0 ∧ ¬ mt 0 1 0 - (if mt 28 (4 * d + c) 0 ≤ mt 29 (4 * d + c) 0 then mt 29 (4 * d + c) 0 else mt 28 (4 * d + c) 0) < mt 22 (4 * d + c) 0)) ∧ (¬ bz (mt 30 (4 * d + c) 0) = 0 → (¬ mt 20 (4 * d + c) 0 ≤ 0 ∧ (¬ bz (mt 23 (4 * d + c) 0) = 0 ∧ ¬ mt 25 (4 * d + c) 0 ≤ mt 21 (4 * d + c) 0) ∧ ¬ mt 0 1 0 < mt 29 (4 * d + c) 0) ∨ (¬ 1 < mt 20 (4 * d + c) 0 ∧ bz (mt 31 (4 * d + c) 0) = 0))
theorem Rz_of {mt mt' : XS} (h : Rz mt) (hm : Ag [(0, 1)] [2, 5, 20, 21, 22, 23, 25, 28, 29, 30, 31] mt mt') : Rz mt' := by
  have m0_1 : ∀ i, mt' 0 1 i = mt 0 1 i := fun i => hm 0 1 i (by decide)
  have m2 : ∀ k i, mt' 2 k i = mt 2 k i := fun k i => hm 2 k i (by simp)
  have m5 : ∀ k i, mt' 5 k i = mt 5 k i := fun k i => hm 5 k i (by simp)
  have m20 : ∀ k i, mt' 20 k i = mt 20 k i := fun k i => hm 20 k i (by simp)
  have m21 : ∀ k i, mt' 21 k i = mt 21 k i := fun k i => hm 21 k i (by simp)
  have m22 : ∀ k i, mt' 22 k i = mt 22 k i := fun k i => hm 22 k i (by simp)
  have m23 : ∀ k i, mt' 23 k i = mt 23 k i := fun k i => hm 23 k i (by simp)
  have m25 : ∀ k i, mt' 25 k i = mt 25 k i := fun k i => hm 25 k i (by simp)
  have m28 : ∀ k i, mt' 28 k i = mt 28 k i := fun k i => hm 28 k i (by simp)
  have m29 : ∀ k i, mt' 29 k i = mt 29 k i := fun k i => hm 29 k i (by simp)
  have m30 : ∀ k i, mt' 30 k i = mt 30 k i := fun k i => hm 30 k i (by simp)
  have m31 : ∀ k i, mt' 31 k i = mt 31 k i := fun k i => hm 31 k i (by simp)
  unfold Rz at h ⊢
  simp only [m0_1, m2, m5, m20, m21, m22, m23, m25, m28, m29, m30, m31]
  exact h
