theorem vm_isDevice {x : Int32} (h : ¬ f_MO_isDevice x = 0) : vp_in x 8 := by
  unfold f_MO_isDevice at h
  split at h
  · exact absurd rfl h
  · rename_i h1
    split at h
    · exact absurd rfl h
    · rename_i h2
      have a1 := i32_nle h2
      have e8 : (8 : Int32).toInt = 8 := by decide
      rw [Int32.lt_iff_toInt_lt] at h1
      have e0 : (0 : Int32).toInt = 0 := by decide
      exact vp_in_iff.mpr ⟨by omega, by omega⟩
theorem vm_isBed {x : Int32} (h : ¬ f_MO_isBed x = 0) : vp_in x 4 := by
  unfold f_MO_isBed at h
  split at h
  · exact absurd rfl h
  · rename_i h1
    split at h
    · exact absurd rfl h
    · rename_i h2
      have a1 := i32_nle h2
      have e8 : (4 : Int32).toInt = 4 := by decide
      rw [Int32.lt_iff_toInt_lt] at h1
      have e0 : (0 : Int32).toInt = 0 := by decide
      exact vp_in_iff.mpr ⟨by omega, by omega⟩
theorem i32_4 {x : Int32} (h : vp_in x 8) : (4 * x).toInt = 4 * x.toInt := by
  obtain ⟨h1, h2⟩ := vp_in_iff.mp h
  have e : (4 : Int32).toInt = 4 := by decide
  rw [Int32.toInt_mul, e]
  exact Int.bmod_eq_of_le (by omega) (by omega)
theorem i32_4c {x y : Int32} (h : vp_in x 8) (h' : vp_in y 4) : ((4 * x) + y).toInt = 4 * x.toInt + y.toInt := by
  obtain ⟨h1, h2⟩ := vp_in_iff.mp h
  obtain ⟨h3, h4⟩ := vp_in_iff.mp h'
  rw [Int32.toInt_add, i32_4 h]
  exact Int.bmod_eq_of_le (by omega) (by omega)
theorem ix4 {x y : Int32} (h : vp_in x 8) (h' : vp_in y 4) : vp_in ((4 * x) + y) 32 := by
  obtain ⟨h1, h2⟩ := vp_in_iff.mp h
  obtain ⟨h3, h4⟩ := vp_in_iff.mp h'
  have e := i32_4c h h'
  exact vp_in_iff.mpr ⟨by omega, by omega⟩
theorem q4 {x : Int32} (h : vp_in x 8) : ((4 * x) + 4).toInt ≤ (32 : Nat) := by
  obtain ⟨h1, h2⟩ := vp_in_iff.mp h
  have e : (4 : Int32).toInt = 4 := by decide
  have e2 : ((4 * x) + 4).toInt = 4 * x.toInt + 4 := by
    rw [Int32.toInt_add, i32_4 h, e]
    exact Int.bmod_eq_of_le (by omega) (by omega)
  omega
theorem lp4_st {x : Int32} (h : vp_in x 8) : lpi 32 33 (4 * x) := by
  obtain ⟨h1, h2⟩ := vp_in_iff.mp h
  have e := i32_4 h
  exact ⟨by omega, by omega, by omega⟩
/-- the reference's post, and its channels -/
def qok (st : XS) : Prop := 0 ≤ (st 0 39 0).toInt ∧ (st 0 39 0).toInt ≤ (64 : Nat)
theorem qok_of {st st' : XS} (h : qok st) (e : st' 0 39 0 = st 0 39 0) : qok st' := by
  unfold qok
  rw [e]
  exact h
theorem qok_xu {st : XS} {a k i : Nat} {v : Int32} (h : qok st) (h5 : (a, k) ≠ (0, 39)) : qok (xu st a k i v) := qok_of h (xu_f (fun e => h5 e.symm))
theorem qok_xa {st : XS} {a k i : Nat} {v : Int32} (h : qok st) (h5 : a ≠ 0) : qok (xu st a k i v) := qok_of h (xu_a (fun e => h5 e.symm))
theorem qo_in {st : XS} (h : qok st) (hc : ¬ (64 : Int32) ≤ st 0 39 0) : vp_in (st 0 39 0) 64 := by
  have h1 := i32_nle hc
  have e : (64 : Int32).toInt = 64 := by decide
  exact vp_in_iff.mpr ⟨h.1, by omega⟩
def cok (st : XS) : Prop := ∀ d, d < 8 → 0 ≤ (st 5 d 0).toInt ∧ (st 5 d 0).toInt ≤ (4 : Nat)
theorem cok_of {st st' : XS} (h : cok st) (e : ∀ d, st' 5 d 0 = st 5 d 0) : cok st' := fun d hd => by rw [e d]; exact h d hd
theorem lpi_ix1 {n : Nat} {x : Int32} (hx : lpi 63 n x) (h : x.toInt < (63 : Nat)) : vp_in (x + 1) 64 := vp_in_iff.mpr (by
  rw [i32_inc hx.1 (by omega)]
  have := hx.1
  constructor <;> omega)
theorem tk_st {st : XS} (hq : qok st) {x : Int32} (h0 : 0 ≤ x.toInt) (h1 : x.toInt < (st 0 39 0).toInt) : lpi 63 64 x := ⟨h0, by have := hq.2; omega, by omega⟩
theorem tk_iv {st : XS} (hq : qok st) {x : Int32} (h0 : 0 ≤ x.toInt) (h1 : x.toInt < (st 0 39 0).toInt) : ((st 0 39 0) - 1).toInt ≤ (63 : Nat) := by
  rw [i32_dec (by omega)]
  have := hq.2
  omega
/-- a loop that runs down to -1 from at most 31 -/
def lpd (n : Nat) (x : Int32) : Prop := -1 ≤ x.toInt ∧ x.toInt ≤ 31 ∧ x.toInt + 1 < n
theorem lpd_no {x : Int32} (h : lpd 0 x) : False := by
  obtain ⟨h1, h2, h3⟩ := h
  omega
theorem lpd_st : lpd 33 31 := ⟨by decide, by decide, by decide⟩
theorem i32_nlt {x : Int32} (h : ¬ x < 0) : 0 ≤ x.toInt := by
  rw [Int32.lt_iff_toInt_lt] at h
  have e0 : (0 : Int32).toInt = 0 := by decide
  omega
theorem lpd_nx {n : Nat} {x : Int32} (h : lpd (n + 1) x) (hc : ¬ x < 0) : lpd n (x + (-1)) := by
  obtain ⟨h1, h2, h3⟩ := h
  have h0 := i32_nlt hc
  have e : (-1 : Int32).toInt = -1 := by decide
  have e2 : (x + (-1)).toInt = x.toInt - 1 := by
    rw [Int32.toInt_add, e]
    exact Int.bmod_eq_of_le (by omega) (by omega)
  refine ⟨by omega, by omega, ?_⟩
  rw [e2]
  have : ((n + 1 : Nat) : Int) = (n : Int) + 1 := by omega
  omega
theorem div4 {x : Int32} (h0 : 0 ≤ x.toInt) (h : x.toInt ≤ 31) : vp_in (x / 4) 8 := by
  obtain ⟨j, hj, rfl⟩ := nI_of (x := x) (by rw [Int32.lt_iff_toInt_lt]; have e0 : (0 : Int32).toInt = 0 := by decide
                                            omega)
  rw [nI_toInt hj] at h
  have e : (nI j / 4 : Int32) = nI (j / 4) := pk_div (d := 4) hj (by decide) (by decide)
  rw [e]
  exact vp_in_nI (by omega) (by decide)
theorem lpd_32 {n : Nat} {x : Int32} (h : lpd n x) (hc : ¬ x < 0) : vp_in x 32 := vp_in_iff.mpr ⟨i32_nlt hc, by have := h.2.1; omega⟩
theorem lpd_8 {n : Nat} {x : Int32} (h : lpd n x) (hc : ¬ x < 0) : vp_in (x / 4) 8 := div4 (i32_nlt hc) h.2.1
