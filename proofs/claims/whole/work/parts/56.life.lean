section LIF
variable {n : Nat} {st mt : XS} {d : Nat}
theorem life_loop : ∀ (m : Nat) (st : XS) (x : Int32), (st 8 5 d).toInt ≤ (4 : Nat) → lpi 4 m x → ∀ {a k : Nat}, (a, k) ∈ ([(12, 4), (13, 4), (13, 6), (13, 7), (13, 8)] : List (Nat × Nat)) →
    (∀ c : Nat, x.toNatClampNeg ≤ c → (c : Int) < (st 8 5 d).toInt → g_DE_beginLife_40 m st d x a k (20 * d + 4 * c) = 0) ∧ (∀ i, ((∀ c : Nat, c < 4 → i ≠ 20 * d + 4 * c) ∨ (∀ c : Nat, c < 4 → i = 20 * d + 4 * c → c < x.toNatClampNeg ∨ (st 8 5 d).toInt ≤ (c : Int))) → g_DE_beginLife_40 m st d x a k i = st a k i) := by
  intro m
  induction m with
  | zero => intro st x hc hx; exact absurd hx lpi_no
  | succ m ih =>
    intro st x hc hx a k hak
    have ex := i32_nat hx.1
    rw [g_DE_beginLife_40]
    by_cases hcc : st 8 5 d ≤ x
    · have hle := i32_le.mp hcc
      simp only [if_pos hcc]
      exact ⟨fun c h1 h2 => absurd h2 (by omega), fun _ _ => trivial⟩
    · have hlt := i32_nle hcc
      have hinc := inc_n hx.1 (by omega)
      have e8 : f_CH_forget st (20 * d + 4 * x.toNatClampNeg) 8 5 d = st 8 5 d := fr_CH_forget (by decide) (by decide)
      simp only [if_neg hcc]
      obtain ⟨i1, i2⟩ := ih (f_CH_forget st (20 * d + 4 * x.toNatClampNeg)) (x + 1) (by rw [e8]; exact hc) (lpi_nx hx (by omega) (by decide)) hak
      rw [e8, hinc] at i1
      rw [e8, hinc] at i2
      have hat : f_CH_forget st (20 * d + 4 * x.toNatClampNeg) a k (20 * d + 4 * x.toNatClampNeg) = 0 := by
        unfold f_CH_forget f_AL_forget
        simp only [List.mem_cons, List.not_mem_nil, or_false, Prod.mk.injEq] at hak
        rcases hak with ⟨rfl, rfl⟩ | ⟨rfl, rfl⟩ | ⟨rfl, rfl⟩ | ⟨rfl, rfl⟩ | ⟨rfl, rfl⟩ <;> simp (disch := first | decide | assumption | omega) only [xu_s, xu_f, xu_a, xu_o, xu_k, fill_a, fill_in, fill_out]
      refine ⟨fun c h1 h2 => ?_, fun i hi => ?_⟩
      · by_cases e : c = x.toNatClampNeg
        · subst e
          rw [i2 _ (Or.inr (fun c hc2 hc3 => by omega)), hat]
        · exact i1 c (by omega) h2
      · have hne : i ≠ 20 * d + 4 * x.toNatClampNeg := fun z => by
          rcases hi with hi | hi
          · exact hi _ (by omega) z
          · have := hi _ (by omega) z
            omega
        rw [i2 i (hi.imp id (fun z c h1 h2 => by have := z c h1 h2; omega))]
        unfold f_CH_forget f_AL_forget
        have hx9 : ∀ (s : XS) (a2 k2 : Nat) (v : Int32), xu s a2 k2 (20 * d + 4 * x.toNatClampNeg) v a k i = s a k i := fun s a2 k2 v => xu_n (fun z => hne z.2.2)
        simp only [hx9]
theorem restart_R (h : RR n st mt) (hz : Rz mt) {a1 : Int32} (ha8 : vp_in a1 8) (hst : mt 2 a1.toNatClampNeg 0 = 2) :
    RR n (f_DE_beginLife st a1.toNatClampNeg) (f_MO_forget (xu mt 4 a1.toNatClampNeg 0 (mt 4 a1.toNatClampNeg 0 + 1)) a1) ∧ Rz (f_MO_forget (xu mt 4 a1.toNatClampNeg 0 (mt 4 a1.toNatClampNeg 0 + 1)) a1) := by
  rw [forget_eq ha8]
  have hd8 := xin_lt ha8
  generalize a1.toNatClampNeg = d at *
  obtain ⟨ha, hb, hd, hn, ht, hc, hq, hv, hw, hl, hk, hi, ho, hp, hs, hm, hN⟩ := h
  obtain ⟨s1, hs1⟩ : ∃ s1, s1 = xu (xu (xu (xu (xu st 8 4 d (st 8 4 d + 1)) 8 6 d 0) 8 7 d (-1000000)) 10 5 d (-1000000)) 10 3 d 0 := ⟨_, rfl⟩
  have hB : f_DE_beginLife st d = g_DE_beginLife_40 5 s1 d 0 := by rw [hs1]; rfl
  have h5 : s1 8 5 d = mt 5 d 0 := by rw [hs1]; simp (disch := first | decide | assumption | omega) only [xu_s, xu_f, xu_a, xu_o, xu_k, fill_a, fill_in, fill_out]; exact (hd d hd8).2.2.2.1
  have hz0 : (0 : Int32).toNatClampNeg = 0 := by decide
  have hr5 := (hd d hd8).2.2.2.2.2.1
  have hlo : ∀ {a k : Nat}, (a, k) ∉ ([(12, 4), (13, 4), (13, 6), (13, 7), (13, 8)] : List (Nat × Nat)) → ∀ i, f_DE_beginLife st d a k i = s1 a k i := fun hak i => by rw [hB]; exact fr_DE_beginLife_40 hak (by simp) _ _ _ _
  have hin : ∀ {a k : Nat}, (a, k) ∈ ([(12, 4), (13, 4), (13, 6), (13, 7), (13, 8)] : List (Nat × Nat)) → ∀ c : Nat, (c : Int) < (mt 5 d 0).toInt → f_DE_beginLife st d a k (20 * d + 4 * c) = 0 := fun hak c hc9 => by
    rw [hB]
    exact (life_loop 5 s1 0 (by rw [h5]; exact hr5.2) lpi_st hak).1 c (by rw [hz0]; omega) (by rw [h5]; exact hc9)
  have hup : ∀ {a k : Nat}, (a, k) ∈ ([(12, 4), (13, 4), (13, 6), (13, 7), (13, 8)] : List (Nat × Nat)) → ∀ c : Nat, c < 4 → ¬ (c : Int) < (mt 5 d 0).toInt → f_DE_beginLife st d a k (20 * d + 4 * c) = s1 a k (20 * d + 4 * c) := fun hak c hc4 hc9 => by
    rw [hB]
    exact (life_loop 5 s1 0 (by rw [h5]; exact hr5.2) lpi_st hak).2 _ (Or.inr (fun c2 h2 h3 => by rw [h5]; omega))
  have hot : ∀ {a k : Nat}, (a, k) ∈ ([(12, 4), (13, 4), (13, 6), (13, 7), (13, 8)] : List (Nat × Nat)) → ∀ d' c : Nat, c < 4 → d' ≠ d → f_DE_beginLife st d a k (20 * d' + 4 * c) = s1 a k (20 * d' + 4 * c) := fun hak d' c hc4 hne => by
    rw [hB]
    exact (life_loop 5 s1 0 (by rw [h5]; exact hr5.2) lpi_st hak).2 _ (Or.inl (fun c2 h2 => by omega))
  refine ⟨⟨Ra_of ha (Ag.of fr_DE_beginLife (by decide)) (((((((((((((Ag.rf.wa (by decide)).wa (by decide)).wa (by decide)).wa (by decide)).wa (by decide)).wa (by decide)).wf (by decide)).wf (by decide)).wf (by decide)).wf (by decide)).wf (by decide)).wf (by decide)).wf (by decide)), Rb_of hb (Ag.of fr_DE_beginLife (by decide)) (((((((((((((Ag.rf.wa (by decide)).wa (by decide)).wa (by decide)).wa (by decide)).wa (by decide)).wa (by decide)).wf (by decide)).wf (by decide)).wf (by decide)).wf (by decide)).wf (by decide)).wf (by decide)).wf (by decide)), ?_, ?_, ?_, Rc_of hc (Ag.of fr_DE_beginLife (by decide)) (((((((((((((Ag.rf.wa (by decide)).wa (by decide)).wa (by decide)).wa (by decide)).wa (by decide)).wa (by decide)).wf (by decide)).wf (by decide)).wf (by decide)).wf (by decide)).wf (by decide)).wf (by decide)).wf (by decide)), ?_, ?_, ?_, ?_, Rk_of hk (Ag.of fr_DE_beginLife (by decide)) (((((((((((((Ag.rf.wa (by decide)).wa (by decide)).wa (by decide)).wa (by decide)).wa (by decide)).wa (by decide)).wf (by decide)).wf (by decide)).wf (by decide)).wf (by decide)).wf (by decide)).wf (by decide)).wf (by decide)), Ri_of hi (Ag.of fr_DE_beginLife (by decide)) (((((((((((((Ag.rf.wa (by decide)).wa (by decide)).wa (by decide)).wa (by decide)).wa (by decide)).wa (by decide)).wf (by decide)).wf (by decide)).wf (by decide)).wf (by decide)).wf (by decide)).wf (by decide)).wf (by decide)), Ro_of ho (Ag.of fr_DE_beginLife (by decide)) (((((((((((((Ag.rf.wa (by decide)).wa (by decide)).wa (by decide)).wa (by decide)).wa (by decide)).wa (by decide)).wf (by decide)).wf (by decide)).wf (by decide)).wf (by decide)).wf (by decide)).wf (by decide)).wf (by decide)), Rp_of hp (Ag.of fr_DE_beginLife (by decide)) (((((((((((((Ag.rf.wa (by decide)).wa (by decide)).wa (by decide)).wa (by decide)).wa (by decide)).wa (by decide)).wf (by decide)).wf (by decide)).wf (by decide)).wf (by decide)).wf (by decide)).wf (by decide)).wf (by decide)), Rs_of hs (Ag.of fr_DE_beginLife (by decide)) (((((((((((((Ag.rf.wa (by decide)).wa (by decide)).wa (by decide)).wa (by decide)).wa (by decide)).wa (by decide)).wf (by decide)).wf (by decide)).wf (by decide)).wf (by decide)).wf (by decide)).wf (by decide)).wf (by decide)), Rm_of hm (((((((((((((Ag.rf.wa (by decide)).wa (by decide)).wa (by decide)).wa (by decide)).wa (by decide)).wa (by decide)).wf (by decide)).wf (by decide)).wf (by decide)).wf (by decide)).wf (by decide)).wf (by decide)).wf (by decide)), hN⟩, ?_⟩
  · intro d' hd'
    have h0 := hd d' hd'
    simp only [hlo (a := 8) (k := 2) (by decide), hlo (a := 8) (k := 3) (by decide), hlo (a := 8) (k := 4) (by decide), hlo (a := 8) (k := 5) (by decide), hlo (a := 8) (k := 6) (by decide), hs1]
    by_cases e : d' = d
    · subst e
      simp (disch := first | decide | assumption | omega) only [xu_s, xu_f, xu_a, xu_o, xu_k, fill_a, fill_in, fill_out]
      obtain ⟨p1, p2, p3, p4, p5, p6, p7, p8, p9⟩ := h0
      exact ⟨p1, p2, by rw [p3], p4, trivial, p6, p7, p8, fun z => absurd trivial z⟩
    · simp (disch := first | decide | assumption | omega) only [xu_s, xu_f, xu_a, xu_o, xu_k, fill_a, fill_in, fill_out]
      exact h0
  · intro d' hd'
    have h0 := hn d' hd'
    simp only [hlo (a := 8) (k := 7) (by decide), hlo (a := 8) (k := 8) (by decide), hs1]
    by_cases e : d' = d
    · subst e
      simp (disch := first | decide | assumption | omega) only [xu_s, xu_f, xu_a, xu_o, xu_k, fill_a, fill_in, fill_out]
      exact ⟨Or.inr ⟨rfl, rfl⟩, h0.2⟩
    · simp (disch := first | decide | assumption | omega) only [xu_s, xu_f, xu_a, xu_o, xu_k, fill_a, fill_in, fill_out]
      exact h0
  · intro d' hd'
    have h0 := ht d' hd'
    simp only [hlo (a := 10) (k := 1) (by decide), hlo (a := 10) (k := 2) (by decide), hlo (a := 10) (k := 3) (by decide), hlo (a := 10) (k := 4) (by decide), hlo (a := 10) (k := 5) (by decide), hlo (a := 11) (k := 0) (by decide), hlo (a := 11) (k := 1) (by decide), hlo (a := 11) (k := 2) (by decide), hs1]
    by_cases e : d' = d
    · subst e
      simp (disch := first | decide | assumption | omega) only [xu_s, xu_f, xu_a, xu_o, xu_k, fill_a, fill_in, fill_out]
      exact ⟨h0.1, h0.2.1, trivial, Or.inr ⟨trivial, trivial⟩, h0.2.2.2.2⟩
    · simp (disch := first | decide | assumption | omega) only [xu_s, xu_f, xu_a, xu_o, xu_k, fill_a, fill_in, fill_out]
      exact h0
  · intro d' hd' c' hc' hno
    have h0 := hq d' hd' c' hc' (by revert hno; simp (disch := first | decide | assumption | omega) only [xu_s, xu_f, xu_a, xu_o, xu_k, fill_a, fill_in, fill_out]; exact id)
    by_cases e : d' = d
    · subst e
      simp (disch := first | decide | assumption | omega) only [xu_s, xu_f, xu_a, xu_o, xu_k, fill_a, fill_in, fill_out]
      exact ⟨rfl, rfl, h0.2.2.1, trivial⟩
    · simp (disch := first | decide | assumption | omega) only [xu_s, xu_f, xu_a, xu_o, xu_k, fill_a, fill_in, fill_out]
      exact h0
  · intro d' hd' c' hc'
    have h0 := hv d' hd' c' hc'
    simp only [hlo (a := 12) (k := 5) (by decide), hlo (a := 12) (k := 6) (by decide)]
    by_cases e : d' = d
    · subst e
      simp (disch := first | decide | assumption | omega) only [xu_s, xu_f, xu_a, xu_o, xu_k, fill_a, fill_in, fill_out]
      refine ⟨?_, fun z => absurd rfl z⟩
      by_cases hcc : (c' : Int) < (mt 5 d' 0).toInt
      · rw [hin (by decide) c' hcc]
      · rw [hup (by decide) c' hc' hcc, hs1]
        simp (disch := first | decide | assumption | omega) only [xu_s, xu_f, xu_a, xu_o, xu_k, fill_a, fill_in, fill_out]
        rw [h0.1, (hq d' hd' c' hc' (fun z => hcc z.2)).1]
        rfl
    · rw [hot (by decide) d' c' hc' e, hs1]
      simp (disch := first | decide | assumption | omega) only [xu_s, xu_f, xu_a, xu_o, xu_k, fill_a, fill_in, fill_out]
      exact h0
  · intro d' hd' c' hc'
    have h0 := hw d' hd' c' hc'
    simp only [hlo (a := 12) (k := 7) (by decide), hlo (a := 12) (k := 8) (by decide), hs1]
    by_cases e : d' = d
    · subst e
      simp (disch := first | decide | assumption | omega) only [xu_s, xu_f, xu_a, xu_o, xu_k, fill_a, fill_in, fill_out]
      exact ⟨fun _ => rfl, fun z => absurd trivial z⟩
    · simp (disch := first | decide | assumption | omega) only [xu_s, xu_f, xu_a, xu_o, xu_k, fill_a, fill_in, fill_out]
      exact h0
  · intro d' hd' c' hc'
    have h0 := hl d' hd' c' hc'
    simp only [hlo (a := 13) (k := 5) (by decide), hlo (a := 13) (k := 9) (by decide)]
    by_cases e : d' = d
    · subst e
      simp (disch := first | decide | assumption | omega) only [xu_s, xu_f, xu_a, xu_o, xu_k, fill_a, fill_in, fill_out]
      have hb0 : bz 0 = 0 := bz_0
      by_cases hcc : (c' : Int) < (mt 5 d' 0).toInt
      · simp only [hin (a := 13) (k := 4) (by decide) c' hcc, hin (a := 13) (k := 6) (by decide) c' hcc, hin (a := 13) (k := 7) (by decide) c' hcc, hin (a := 13) (k := 8) (by decide) c' hcc]
        exact ⟨⟨fun z => absurd hb0 z, fun z => absurd hb0 z.2.1⟩, fun z => absurd hb0 z, Or.inr ⟨trivial, trivial⟩, trivial, trivial, fun _ => hb0, fun z => absurd hb0 z⟩
      · have hq0 := hq d' hd' c' hc' (fun z => hcc z.2)
        simp only [hup (a := 13) (k := 4) (by decide) c' hc' hcc, hup (a := 13) (k := 6) (by decide) c' hc' hcc, hup (a := 13) (k := 7) (by decide) c' hc' hcc, hup (a := 13) (k := 8) (by decide) c' hc' hcc, hs1]
        simp (disch := first | decide | assumption | omega) only [xu_s, xu_f, xu_a, xu_o, xu_k, fill_a, fill_in, fill_out]
        obtain ⟨l1, l2, l3, l4, l5, l6, l7⟩ := h0
        have hA : bz (st 13 4 (20 * d' + 4 * c')) = 0 := Decidable.not_not.mp (fun z => (l1.mp z).2.1 hq0.1)
        refine ⟨⟨fun z => absurd hA z, fun z => absurd hb0 z.2.1⟩, fun z => absurd hA z, ?_, l4.trans hq0.2.1, (l5.trans (l6 hq0.2.1)), fun _ => hb0, fun z => absurd hb0 z⟩
        rcases l3 with ⟨-, l3⟩ | ⟨l3, -⟩
        · rw [hq0.2.2.2] at l3
          exact absurd l3 (by decide)
        · exact Or.inr ⟨l3, trivial⟩
    · simp only [hot (a := 13) (k := 4) (by decide) d' c' hc' e, hot (a := 13) (k := 6) (by decide) d' c' hc' e, hot (a := 13) (k := 7) (by decide) d' c' hc' e, hot (a := 13) (k := 8) (by decide) d' c' hc' e, hs1]
      simp (disch := first | decide | assumption | omega) only [xu_s, xu_f, xu_a, xu_o, xu_k, fill_a, fill_in, fill_out]
      exact h0
  · intro d' hd' c' hc'
    have h0 := hz d' hd' c' hc'
    by_cases e : d' = d
    · subst e
      simp (disch := first | decide | assumption | omega) only [xu_s, xu_f, xu_a, xu_o, xu_k, fill_a, fill_in, fill_out]
      have hb0 : bz 0 = 0 := bz_0
      intro _ _
      exact ⟨fun _ z => absurd hb0 z.2.1.1, fun z => absurd hb0 z⟩
    · simp (disch := first | decide | assumption | omega) only [xu_s, xu_f, xu_a, xu_o, xu_k, fill_a, fill_in, fill_out]
      exact h0
theorem eq_restart (h : RR n st mt) (hz : Rz mt) {a1 : Int32} : Ok n (f_BN_restart st a1) (f_MO_restart mt a1) := by
  have h' := h.th (v := 0)
  unfold f_BN_restart f_MO_restart
  rw [h'.sealed]
  by_cases e1 : f_MO_isAt (xu mt 0 0 0 0) a1 2 = 0
  · rw [if_pos e1, if_pos e1]
    exact Ok.no h hz
  · rw [if_neg e1, if_neg e1]
    obtain ⟨hd8, hst⟩ := at_in e1
    obtain ⟨h2, hz2⟩ := restart_R h' (hz.th (v := 0)) hd8 hst
    rw [show xu mt 0 0 0 0 4 a1.toNatClampNeg 0 = mt 4 a1.toNatClampNeg 0 from xu_a (by decide)] at h2 hz2
    rw [settle_id h2.ch hz2]
    exact ⟨rfl, h2.mono (by omega), hz2⟩
end LIF
