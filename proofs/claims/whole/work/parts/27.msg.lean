/-- a message that can be delivered -/
def mok (st : XS) (i : Nat) : Prop := vp_in (st 7 2 i) 8 ∧ ((st 7 1 i = 5 ∨ st 7 1 i = 6) → vp_in (st 7 3 i) 100) ∧ ((st 7 1 i = 2 ∨ st 7 1 i = 4) → vp_in (st 7 3 i) 4)
theorem mok_of {st st' : XS} {i j : Nat} (h : mok st i) (e : ∀ k, k < 8 → st' 7 k j = st 7 k i) : mok st' j := by
  unfold mok
  rw [e 1 (by decide), e 2 (by decide), e 3 (by decide)]
  exact h
theorem copy_7 {st : XS} {i o k : Nat} (hne : o ≠ i) (hk : k < 8) : f_ME_copy st i o 7 k i = st 7 k o := by
  unfold f_ME_copy
  rcases (show k = 0 ∨ k = 1 ∨ k = 2 ∨ k = 3 ∨ k = 4 ∨ k = 5 ∨ k = 6 ∨ k = 7 by omega) with rfl | rfl | rfl | rfl | rfl | rfl | rfl | rfl <;> simp [xu, hne]
theorem mok_copy {st : XS} {o : Nat} (ho : o < 65) (h : mok st o) : mok (f_ME_copy st 65 o) 65 := mok_of h (fun k hk => copy_7 (by omega) hk)
theorem sub_in {x c k : Int32} {N : Nat} (h1 : ¬ x < c) (hc : 0 ≤ c.toInt) (h2 : ¬ k ≤ x - c) (hk : k.toInt ≤ N) : vp_in (x - c) N := by
  rw [Int32.lt_iff_toInt_lt] at h1
  have h3 := i32_nle h2
  have h4 := Int32.toInt_lt x
  have e : (x - c).toInt = x.toInt - c.toInt := by
    rw [Int32.toInt_sub]
    exact Int.bmod_eq_of_le (by omega) (by omega)
  exact vp_in_iff.mpr ⟨by omega, by omega⟩
theorem ix_g {st : XS} {a : Int32} (hp : pok st) : ∀ (n : Nat) (x : Int32), lpi 64 n x → g_PO_indexOf_2 n st a x = -1 ∨ (0 ≤ (g_PO_indexOf_2 n st a x).toInt ∧ (g_PO_indexOf_2 n st a x).toInt < (st 5 1 0).toInt) := by
  intro n
  induction n with
  | zero => intro x hx; exact absurd hx lpi_no
  | succ n ih =>
    intro x hx
    unfold g_PO_indexOf_2
    split
    · exact Or.inl rfl
    · rename_i h1
      split
      · exact Or.inr ⟨hx.1, i32_nle h1⟩
      · exact ih _ (lpi_nx hx (lpi_c hx h1 hp.2.1) (by decide))
theorem ix_ok {st : XS} {a : Int32} (hp : pok st) (h : ¬ f_PO_indexOf st a = -1) : 0 ≤ (f_PO_indexOf st a).toInt ∧ (f_PO_indexOf st a).toInt < (st 5 1 0).toInt := by
  unfold f_PO_indexOf at h ⊢
  exact (ix_g hp 65 0 lpi_st).resolve_left h
theorem p_PO_remove {st : XS} {a1 : Int32} (hp : pok st) (h0 : 0 ≤ a1.toInt) (h1 : a1.toInt < (st 5 1 0).toInt) : pok (f_PO_remove st a1) := by
  unfold f_PO_remove
  have hm : (st 6 a1.toNatClampNeg 0).toNatClampNeg < 65 := hp.2.2 _ (xin_lt (rm_in hp h0 h1))
  have hg : ∀ (n : Nat) (s' : XS) (x : Int32), pok s' → lpr n x → pok (g_PO_remove_11 n s' a1 (st 6 a1.toNatClampNeg 0) x) := by
    intro n
    induction n with
    | zero => intro s' x h _; exact h
    | succ n ih =>
      intro s' x h hx
      unfold g_PO_remove_11
      split
      · exact h
      · rename_i hc
        have hl := lpi_c hx.1 hc h.2.1
        exact ih _ _ (pok_s h (h.2.2 _ (xin_lt (lpi_ix hx.1 hl (by decide))))) (lpr_nx hx hl)
  have hG := hg 65 st (a1 + 1) hp (lpr_st hp h0 h1)
  have e5 : g_PO_remove_11 65 st a1 (st 6 a1.toNatClampNeg 0) (a1 + 1) 5 1 0 = st 5 1 0 := fr_PO_remove_11 (by decide) (by decide) _ _ _ _ _
  have hd := pok_d hG (by rw [e5]; omega)
  rw [e5] at hd
  exact pok_s hd hm
/-- all that is pending can be delivered -/
def mall (st : XS) : Prop := ∀ i : Nat, (i : Int) < (st 5 1 0).toInt → mok st (st 6 i 0).toNatClampNeg
theorem i32_nat {x : Int32} (h : 0 ≤ x.toInt) : (x.toNatClampNeg : Int) = x.toInt := by
  show ((x.toInt.toNat : Nat) : Int) = x.toInt
  omega
theorem mok_ix {st : XS} {x : Int32} (hm : mall st) (h0 : 0 ≤ x.toInt) (h1 : x.toInt < (st 5 1 0).toInt) : mok st (st 6 x.toNatClampNeg 0).toNatClampNeg := hm _ (by rw [i32_nat h0]; exact h1)
