/-! the two states behind the constructors -/
def iF (st : XS) (d : Nat) : Prop := st 3 d 0 = -1 ∧ st 4 d 0 = 1 ∧ st 6 d 0 = 0 ∧ st 7 d 0 = 0 ∧ st 13 d 0 = -1 ∧ st 14 d 0 = -1000000000 ∧ st 15 d 0 = -1000000000 ∧ st 35 d 0 = -1000000000 ∧ ∀ c, c < 4 → st 23 (4 * d + c) 0 = 0 ∧ st 24 (4 * d + c) 0 = 0 ∧ st 30 (4 * d + c) 0 = 0 ∧ st 31 (4 * d + c) 0 = 0 ∧ st 29 (4 * d + c) 0 = -1000000000 ∧ st 28 (4 * d + c) 0 = -1 ∧ st 27 (4 * d + c) 0 = -1000000000
def iL : List Nat := [3, 4, 6, 7, 13, 14, 15, 23, 24, 27, 28, 29, 30, 31, 35]
def iI (st : XS) (x : Nat) : Prop := (∀ d, d < x → iF st d) ∧ ∀ a k i, a ∉ iL → st a k i = 0
def iS (st : XS) (x : Int32) : XS := xu (f_MO_forget (xu (xu st 4 x.toNatClampNeg 0 1) 3 x.toNatClampNeg 0 (-1)) x) 35 x.toNatClampNeg 0 (-1000000000)
theorem iI_step {st : XS} {x : Int32} (hx : vp_in x 8) (h : iI st x.toNatClampNeg) : iI (iS st x) (x.toNatClampNeg + 1) := by
  unfold iS
  rw [forget_eq hx]
  refine ⟨fun d hd => ?_, fun a k i ha => ?_⟩
  · by_cases e : d = x.toNatClampNeg
    · subst e
      unfold iF
      simp (disch := first | decide | assumption | omega) only [xu_s, xu_f, xu_a, xu_o, xu_k, fill_a, fill_in, fill_out]
      refine ⟨trivial, trivial, trivial, trivial, trivial, trivial, trivial, trivial, fun c hc => ?_⟩
      simp (disch := first | decide | assumption | omega) only [xu_s, xu_f, xu_a, xu_o, xu_k, fill_a, fill_in, fill_out]
      exact ⟨trivial, trivial, trivial, trivial, trivial, trivial, trivial⟩
    · have h0 := h.1 d (by omega)
      unfold iF at h0 ⊢
      obtain ⟨g1, g2, g3, g4, g5, g6, g7, g8, g9⟩ := h0
      simp (disch := first | decide | assumption | omega) only [xu_s, xu_f, xu_a, xu_o, xu_k, fill_a, fill_in, fill_out]
      refine ⟨g1, g2, g3, g4, g5, g6, g7, g8, fun c hc => ?_⟩
      simp (disch := first | decide | assumption | omega) only [xu_s, xu_f, xu_a, xu_o, xu_k, fill_a, fill_in, fill_out]
      exact g9 c hc
  · have hn : ∀ y, y ∈ iL → a ≠ y := fun y hy e => ha (e ▸ hy)
    rw [xu_a (hn 35 (by decide)), fill_a (hn 27 (by decide)), fill_a (hn 28 (by decide)), fill_a (hn 29 (by decide)), fill_a (hn 31 (by decide)), fill_a (hn 30 (by decide)), fill_a (hn 24 (by decide)), fill_a (hn 23 (by decide)), xu_a (hn 15 (by decide)), xu_a (hn 14 (by decide)), xu_a (hn 13 (by decide)), xu_a (hn 7 (by decide)), xu_a (hn 6 (by decide)), xu_a (hn 3 (by decide)), xu_a (hn 4 (by decide))]
    exact h.2 a k i ha
theorem iI_loop : ∀ (n : Nat) (st : XS) (x : Int32), lpi 8 n x → iI st x.toNatClampNeg → iI (g_MO_init n st x) 8 := by
  intro n
  induction n with
  | zero => intro st x hx; exact absurd hx lpi_no
  | succ n ih =>
    intro st x hx h
    rw [g_MO_init]
    by_cases hcc : 8 ≤ x
    · rw [if_pos hcc]
      have := i32_le.mp hcc
      have h8 : (8 : Int32).toInt = 8 := by decide
      have ex := i32_nat hx.1
      have := hx.2.1
      exact ⟨fun d hd => h.1 d (by omega), h.2⟩
    · rw [if_neg hcc]
      have hlt := lpi_c hx hcc i32_8
      refine ih _ _ (lpi_nx hx hlt (by decide)) ?_
      rw [inc_n hx.1 (by omega)]
      exact iI_step (lpi_ix hx hlt (by decide)) h
theorem iI_0 : iI mt0 8 := iI_loop 9 m00 0 lpi_st ⟨fun d hd => by rw [show (0 : Int32).toNatClampNeg = 0 from by decide] at hd; omega, fun _ _ _ _ => rfl⟩
theorem mt0_z {a k i : Nat} (h : a ∉ iL) : mt0 a k i = 0 := iI_0.2 a k i h
theorem t0 : (0 : Int32).toInt = 0 := by decide
theorem RR_0 : RR 0 st0 mt0 := by
  have hI := iI_0.1
  have z0 : ∀ k i, mt0 0 k i = 0 := fun k i => mt0_z (by decide)
  have z1 : ∀ k i, mt0 1 k i = 0 := fun k i => mt0_z (by decide)
  have z2 : ∀ k i, mt0 2 k i = 0 := fun k i => mt0_z (by decide)
  have z5 : ∀ k i, mt0 5 k i = 0 := fun k i => mt0_z (by decide)
  have z8 : ∀ k i, mt0 8 k i = 0 := fun k i => mt0_z (by decide)
  have z12 : ∀ k i, mt0 12 k i = 0 := fun k i => mt0_z (by decide)
  have z20 : ∀ k i, mt0 20 k i = 0 := fun k i => mt0_z (by decide)
  have z33 : ∀ k i, mt0 33 k i = 0 := fun k i => mt0_z (by decide)
  have z55 : ∀ k i, mt0 55 k i = 0 := fun k i => mt0_z (by decide)
  refine ⟨?_, ?_, ?_, ?_, ?_, ?_, ?_, ?_, ?_, ?_, ?_, ?_, ?_, ?_, ?_, ?_, ?_⟩
  · unfold Ra
    rw [z0]
    exact ⟨rfl, by decide, by decide⟩
  · intro j hj
    rw [z1]
    rfl
  · intro d hd
    obtain ⟨g1, g2, g3, g4, g5, g6, g7, g8, g9⟩ := hI d hd
    rw [z2, z5, g1, g2, g3]
    exact ⟨rfl, rfl, rfl, rfl, rfl, ⟨by decide, by decide⟩, fun z => absurd rfl z, fun _ => rfl, fun z => absurd rfl z⟩
  · intro d hd
    obtain ⟨g1, g2, g3, g4, g5, g6, g7, g8, g9⟩ := hI d hd
    rw [g7, g8]
    exact ⟨Or.inr ⟨rfl, rfl⟩, Or.inr ⟨rfl, rfl⟩⟩
  · intro d hd
    obtain ⟨g1, g2, g3, g4, g5, g6, g7, g8, g9⟩ := hI d hd
    rw [z8, z12, g4, g6]
    exact ⟨rfl, rfl, rfl, Or.inr ⟨rfl, rfl⟩, fun z => absurd bz_0 z⟩
  · intro d hd c hc
    rw [z5, z20]
    refine ⟨fun z => ?_, fun _ => rfl, by decide⟩
    rw [t0] at z
    omega
  · intro d hd c hc _
    obtain ⟨g1, g2, g3, g4, g5, g6, g7, g8, g9⟩ := hI d hd
    obtain ⟨q1, q2, q3, q4, q5, q6, q7⟩ := g9 c hc
    rw [q1, q3, q5, z33]
    exact ⟨bz_0, bz_0, rfl, rfl⟩
  · intro d hd c hc
    obtain ⟨g1, g2, g3, g4, g5, g6, g7, g8, g9⟩ := hI d hd
    obtain ⟨q1, q2, q3, q4, q5, q6, q7⟩ := g9 c hc
    rw [q1]
    exact ⟨rfl, fun z => absurd bz_0 z⟩
  · intro d hd c hc
    obtain ⟨g1, g2, g3, g4, g5, g6, g7, g8, g9⟩ := hI d hd
    obtain ⟨q1, q2, q3, q4, q5, q6, q7⟩ := g9 c hc
    rw [q2, g3]
    exact ⟨fun _ => bz_0, fun z => absurd rfl z⟩
  · intro d hd c hc
    obtain ⟨g1, g2, g3, g4, g5, g6, g7, g8, g9⟩ := hI d hd
    obtain ⟨q1, q2, q3, q4, q5, q6, q7⟩ := g9 c hc
    rw [q1, q3, q4, q5, z20]
    exact ⟨⟨fun z => absurd bz_0 z, fun z => absurd rfl z.1⟩, fun z => absurd bz_0 z, Or.inr ⟨rfl, rfl⟩, rfl, rfl, fun _ => bz_0, fun z => absurd bz_0 z⟩
  · intro d hd c hc
    rw [z33]
    exact Or.inl ⟨rfl, rfl, bz_0⟩
  · unfold Ri
    rw [z0]
    refine ⟨rfl, ⟨by decide, by decide⟩, fun j hj => ⟨fun z => ?_, fun _ => ⟨rfl, rfl⟩⟩⟩
    rw [t0] at z
    omega
  · unfold Ro
    rw [z0]
    refine ⟨rfl, ⟨by decide, by decide⟩, fun j hj => ⟨fun z => ?_, fun _ => rfl, by rw [z55]; rfl⟩⟩
    rw [t0] at z
    omega
  · unfold Rp
    rw [z0, z0]
    have h6 : ∀ j, j < 65 → (st0 6 j 0).toNatClampNeg = j := fun j hj => nI_clamp (by omega)
    refine ⟨rfl, ⟨by decide, by decide⟩, rfl, fun j hj => by rw [h6 j hj]; exact hj, fun i j hi hj e => by rw [h6 i hi, h6 j hj] at e; exact e, fun j z => ?_⟩
    rw [t0] at z
    omega
  · unfold Rs
    rw [z0, z0]
    refine ⟨rfl, by decide, fun j z => ?_, fun i j _ z => ?_⟩
    · rw [t0] at z
      omega
    · rw [t0] at z
      omega
  · intro j z
    rw [z0, t0] at z
    omega
  · rw [z0]
    decide
theorem Rz_0 : Rz mt0 := fun d hd c hc e => by
  rw [mt0_z (by decide)] at e
  exact absurd e (by decide)
