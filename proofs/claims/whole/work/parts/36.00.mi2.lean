theorem fi_g {st : XS} {a : Int32} (hq : qok st) : ∀ (n : Nat) (c x : Int32), lpi 64 n x → (c.toInt < 0 ∨ c.toInt < (st 0 39 0).toInt) → ((g_MO_find_4 n st a c x).toInt < 0 ∨ (g_MO_find_4 n st a c x).toInt < (st 0 39 0).toInt) := by
  intro n
  induction n with
  | zero => intro c x hx; exact absurd hx lpi_no
  | succ n ih =>
    intro c x hx hc
    unfold g_MO_find_4
    split
    · exact hc
    · rename_i h1
      have hn := lpi_nx hx (lpi_c hx h1 hq.2) (by decide)
      split
      · exact ih _ _ hn (Or.inr (i32_nle h1))
      · exact ih _ _ hn hc
theorem i32_ge {x : Int32} (h : 0 ≤ x) : 0 ≤ x.toInt := by
  rw [Int32.le_iff_toInt_le] at h
  have e0 : (0 : Int32).toInt = 0 := by decide
  omega
theorem fi_lt {st : XS} {a : Int32} (hq : qok st) (h : 0 ≤ f_MO_find st a) : 0 ≤ (f_MO_find st a).toInt ∧ (f_MO_find st a).toInt < (st 0 39 0).toInt := by
  have h0 := i32_ge h
  refine ⟨h0, ?_⟩
  unfold f_MO_find at h0 ⊢
  rcases fi_g (a := a) hq 65 (-1) 0 lpi_st (Or.inl (by decide)) with h1 | h1
  · omega
  · exact h1
theorem fi_in {st : XS} {a : Int32} (hq : qok st) (h : 0 ≤ f_MO_find st a) : vp_in (f_MO_find st a) 64 := by
  have h1 := fi_lt hq h
  exact vp_in_iff.mpr ⟨h1.1, by have := hq.2; omega⟩
theorem p_MO_take {st : XS} {a1 : Int32} (hq : qok st) (h0 : 0 ≤ a1.toInt) (h1 : a1.toInt < (st 0 39 0).toInt) : qok (f_MO_take st a1) := by
  unfold f_MO_take
  refine qok_of (st := xu st 0 39 0 (st 0 39 0 - 1)) ⟨?_, ?_⟩ (fr_MO_take_12 (by decide) (by decide) _ _ _ _)
  · rw [xu_s, i32_dec (by omega)]; omega
  · rw [xu_s, i32_dec (by omega)]; have := hq.2; omega
theorem ch_in {x : Int32} (h : 0 ≤ x.toInt ∧ x.toInt ≤ (4 : Nat)) (hn : ¬ x = 4) : vp_in x 4 := by
  have : x.toInt ≠ 4 := fun e => hn (Int32.toInt_inj.mp (e.trans (by decide)))
  exact vp_in_iff.mpr ⟨h.1, by omega⟩
theorem hn_in {x : Int32} (h : 0 ≤ x.toInt ∧ x.toInt ≤ (16 : Nat)) (hn : ¬ x = 16) : vp_in x 16 := by
  have : x.toInt ≠ 16 := fun e => hn (Int32.toInt_inj.mp (e.trans (by decide)))
  exact vp_in_iff.mpr ⟨h.1, by omega⟩
theorem on_in {x : Int32} (h : 0 ≤ x.toInt ∧ x.toInt ≤ (100 : Nat)) (hn : ¬ x = 100) : vp_in x 100 := by
  have : x.toInt ≠ 100 := fun e => hn (Int32.toInt_inj.mp (e.trans (by decide)))
  exact vp_in_iff.mpr ⟨h.1, by omega⟩
theorem sh_in {x c : Int32} {N : Nat} (h0 : ¬ x < 0) (h1 : ¬ c ≤ x) (hb : c.toInt ≤ N) : vp_in x N := vp_in_iff.mpr ⟨i32_nlt h0, by have := i32_nle h1; omega⟩
theorem ak_in {x : Int32} (h0 : ¬ x < 0) (h1 : ¬ 3 < x) : vp_in x 4 := by
  rw [Int32.lt_iff_toInt_lt] at h1
  have e : (3 : Int32).toInt = 3 := by decide
  exact vp_in_iff.mpr ⟨i32_nlt h0, by omega⟩
theorem sb_in {x c k : Int32} {N : Nat} (h1 : ¬ x < c) (hc : 0 ≤ c.toInt) (h2 : ¬ k ≤ x) (hk : k.toInt - c.toInt ≤ N) : vp_in (x - c) N := by
  rw [Int32.lt_iff_toInt_lt] at h1
  have h3 := i32_nle h2
  have h4 := Int32.toInt_lt x
  have e : (x - c).toInt = x.toInt - c.toInt := by
    rw [Int32.toInt_sub]
    exact Int.bmod_eq_of_le (by omega) (by omega)
  exact vp_in_iff.mpr ⟨by omega, by omega⟩
theorem w42 {x : Int32} (h1 : ¬ x < 10) (h2 : ¬ 42 ≤ x) : 10 ≤ x.toInt ∧ x.toInt < 42 := by
  rw [Int32.lt_iff_toInt_lt] at h1
  have h3 := i32_nle h2
  have e1 : (10 : Int32).toInt = 10 := by decide
  have e2 : (42 : Int32).toInt = 42 := by decide
  omega
theorem lk_in {x : Int32} (h : 10 ≤ x.toInt ∧ x.toInt < 42) : vp_in ((x - 10) / 8) 4 := by
  have e10 : (10 : Int32).toInt = 10 := by decide
  have e : (x - 10).toInt = x.toInt - 10 := by
    rw [Int32.toInt_sub, e10]
    exact Int.bmod_eq_of_le (by omega) (by omega)
  have e0 : (0 : Int32).toInt = 0 := by decide
  have hn : ¬ (x - 10) < 0 := by rw [Int32.lt_iff_toInt_lt]; omega
  obtain ⟨j, hj, ej⟩ := nI_of hn
  rw [ej, nI_toInt hj] at e
  rw [ej]
  have e8 : (nI j / 8 : Int32) = nI (j / 8) := pk_div (d := 8) hj (by decide) (by decide)
  rw [e8]
  exact vp_in_nI (by omega) (by decide)
theorem no10 {x : Int32} (h0 : ¬ x < 0) (h1 : x < 10) (n0 : ¬ x = 0) (n1 : ¬ x = 1) (n2 : ¬ x = 2) (n3 : ¬ x = 3) (n4 : ¬ x = 4) (n5 : ¬ x = 5) (n6 : ¬ x = 6) (n7 : ¬ x = 7) (n8 : ¬ x = 8) (n9 : ¬ x = 9) : False := by
  have a0 := lv_neT n0 (a := 0) (by decide)
  have a1 := lv_neT n1 (a := 1) (by decide)
  have a2 := lv_neT n2 (a := 2) (by decide)
  have a3 := lv_neT n3 (a := 3) (by decide)
  have a4 := lv_neT n4 (a := 4) (by decide)
  have a5 := lv_neT n5 (a := 5) (by decide)
  have a6 := lv_neT n6 (a := 6) (by decide)
  have a7 := lv_neT n7 (a := 7) (by decide)
  have a8 := lv_neT n8 (a := 8) (by decide)
  have a9 := lv_neT n9 (a := 9) (by decide)
  have b0 := i32_nlt h0
  rw [Int32.lt_iff_toInt_lt] at h1
  have e1 : (10 : Int32).toInt = 10 := by decide
  omega
/-- a message of the reference that can be delivered -/
def nok (st : XS) (i : Nat) : Prop := vp_in (st 38 i 0) 8 ∧ ((st 37 i 0 = 1 ∨ st 37 i 0 = 2 ∨ st 37 i 0 = 4) → vp_in (st 39 i 0) 4) ∧ (¬ st 37 i 0 = 1 → ¬ st 37 i 0 = 2 → ¬ st 37 i 0 = 3 → ¬ st 37 i 0 = 4 → vp_in (st 39 i 0) 100) ∧ (st 37 i 0 = 5 → ¬ st 11 (st 38 i 0).toNatClampNeg 0 = 0)
def nall (st : XS) : Prop := ∀ i : Nat, (i : Int) < (st 0 39 0).toInt → nok st i
theorem nok_ix {st : XS} {x : Int32} (hm : nall st) (h : 0 ≤ x.toInt ∧ x.toInt < (st 0 39 0).toInt) : nok st x.toNatClampNeg := hm _ (by rw [i32_nat h.1]; exact h.2)
theorem ite_zz {c : Prop} [Decidable c] {A B : XS × Int32} (hA : bz A.2 = A.2) (hB : bz B.2 = B.2) : bz (if c then A else B).2 = (if c then A else B).2 := by
  by_cases h : c
  · rw [if_pos h]; exact hA
  · rw [if_neg h]; exact hB
