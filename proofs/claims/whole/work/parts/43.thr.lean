abbrev nmR : List String := ["java/lang/RuntimeException", "java/lang/Exception"]
set_option maxRecDepth 100000 in
theorem th_1 : thOk "BedsideNet" 75 "java/lang/IllegalArgumentException" nmR = true := by decide +kernel
set_option maxRecDepth 100000 in
theorem th_2 : thOk "BedsideNet" 81 "java/lang/IllegalStateException" nmR = true := by decide +kernel
set_option maxRecDepth 100000 in
theorem th_3 : thOk "BedsideNet" 210 "java/lang/IndexOutOfBoundsException" nmR = true := by decide +kernel
set_option maxRecDepth 100000 in
theorem th_4 : thOk "BedsideNet" 207 "java/util/NoSuchElementException" nmR = true := by decide +kernel
theorem lt_in {x c : Int32} {N : Nat} (h0 : 0 ≤ x.toInt) (h : x < c) (hc : c.toInt ≤ N) : vp_in x N := by
  rw [Int32.lt_iff_toInt_lt] at h
  exact vp_in_iff.mpr ⟨h0, by omega⟩
theorem ge_in {x c : Int32} {N : Nat} (h0 : 0 ≤ x.toInt) (h : ¬ c ≤ x) (hc : c.toInt ≤ N) : vp_in x N := by
  have := i32_nle h
  exact vp_in_iff.mpr ⟨h0, by omega⟩
theorem ld_g {st : XS} {a1 a2 : Int32} : ∀ (n : Nat) (x : Int32), lpi 8 n x → (g_BN_leastDeviceWith_2 n st a1 a2 x = -1 ∨ vp_in (g_BN_leastDeviceWith_2 n st a1 a2 x) 8) := by
  intro n
  induction n with
  | zero => intro x hx; exact absurd hx lpi_no
  | succ n ih =>
    intro x hx
    unfold g_BN_leastDeviceWith_2
    split
    · exact Or.inl rfl
    · rename_i h1
      have hl := lpi_c hx h1 i32_8
      have hn := lpi_nx hx hl (by decide)
      repeat' split
      all_goals first | exact ih _ hn | exact Or.inr (lpi_ix hx hl (by decide))
theorem ld_in {st : XS} {a1 a2 : Int32} (h : ¬ f_BN_leastDeviceWith st a1 a2 = -1) : vp_in (f_BN_leastDeviceWith st a1 a2) 8 := by
  unfold f_BN_leastDeviceWith at h ⊢
  exact (ld_g 9 0 lpi_st).resolve_left h
