/-- the four places of a device in an array of the reference -/
def fill (mt : XS) (A d : Nat) (v : Int32) : XS := fun a k i => if a = A ∧ i = 0 ∧ 4 * d ≤ k ∧ k < 4 * d + 4 then v else mt a k i
theorem fill_a {mt : XS} {A d a k i : Nat} {v : Int32} (h : a ≠ A) : fill mt A d v a k i = mt a k i := if_neg (fun z => h z.1)
theorem fill_in {mt : XS} {A d c : Nat} {v : Int32} (h : c < 4) : fill mt A d v A (4 * d + c) 0 = v := if_pos ⟨rfl, rfl, by omega, by omega⟩
theorem fill_out {mt : XS} {A d d' c : Nat} {v : Int32} (hne : d' ≠ d) (h : c < 4) : fill mt A d v A (4 * d' + c) 0 = mt A (4 * d' + c) 0 := if_neg (fun z => by omega)
theorem Ag.wf {P : List (Nat × Nat)} {Q : List Nat} {s1 st : XS} {A d : Nat} {v : Int32} (h1 : Ag P Q s1 st) (hd : agD P Q [] [A] = true) : Ag P Q s1 (fill st A d v) :=
  h1.tr (fun _ _ _ h => fill_a (fun e => (agD_spec hd h).2 (by rw [e]; exact List.mem_singleton.mpr rfl)))
/-- the same, from place x on -/
def fillx (mt : XS) (A d x : Nat) (v : Int32) : XS := fun a k i => if a = A ∧ i = 0 ∧ x ≤ k ∧ k < 4 * d + 4 then v else mt a k i
theorem fillx_fill {mt : XS} {A d : Nat} {v : Int32} : fillx mt A d (4 * d) v = fill mt A d v := rfl
theorem fillx_end {mt : XS} {A d x : Nat} {v : Int32} (h : 4 * d + 4 ≤ x) : fillx mt A d x v = mt := by
  funext a k i
  exact if_neg (fun z => by omega)
theorem fillx_step {mt : XS} {A d x : Nat} {v : Int32} (h : x < 4 * d + 4) : fillx (xu mt A x 0 v) A d (x + 1) v = fillx mt A d x v := by
  funext a k i
  unfold fillx xu
  by_cases h1 : a = A ∧ i = 0 ∧ x + 1 ≤ k ∧ k < 4 * d + 4
  · rw [if_pos h1, if_pos ⟨h1.1, h1.2.1, by omega, h1.2.2.2⟩]
  · rw [if_neg h1]
    by_cases h2 : a = A ∧ k = x ∧ i = 0
    · rw [if_pos h2, if_pos ⟨h2.1, h2.2.2, by omega, by omega⟩]
    · rw [if_neg h2, if_neg (fun z => by
        by_cases e : k = x
        · exact h2 ⟨z.1, e, z.2.1⟩
        · exact h1 ⟨z.1, z.2.1, by omega, z.2.2.2⟩)]
theorem fillx_xu {mt : XS} {A d x a0 k0 : Nat} {v w : Int32} (h : a0 ≠ A) : fillx (xu mt a0 k0 0 w) A d x v = xu (fillx mt A d x v) a0 k0 0 w := by
  funext a k i
  unfold fillx xu
  by_cases h1 : a = A ∧ i = 0 ∧ x ≤ k ∧ k < 4 * d + 4
  · rw [if_pos h1, if_neg (fun z => h (z.1.symm.trans h1.1))]
    exact (if_pos h1).symm
  · rw [if_neg h1]
    by_cases h2 : a = a0 ∧ k = k0 ∧ i = 0
    · rw [if_pos h2, if_pos h2]
    · rw [if_neg h2, if_neg h2]
      exact (if_neg h1).symm
theorem q4e {x : Int32} (h : vp_in x 8) : ((4 * x) + 4).toInt = 4 * x.toInt + 4 := by
  have e1 := i32_4 h
  obtain ⟨h1, h2⟩ := vp_in_iff.mp h
  rw [Int32.toInt_add, e1]
  rw [show (4 : Int32).toInt = 4 from by decide]
  rw [Int.bmod_eq_of_le (by omega) (by omega)]
theorem x4n {x : Int32} (h : vp_in x 8) : (4 * x).toNatClampNeg = 4 * x.toNatClampNeg := by
  have e1 := i32_4 h
  obtain ⟨h1, h2⟩ := vp_in_iff.mp h
  have e2 := i32_nat (x := 4 * x) (by omega)
  have e3 := i32_nat h1
  omega
theorem inc_n {x : Int32} (h : 0 ≤ x.toInt) (h2 : x.toInt < 2147483647) : (x + 1).toNatClampNeg = x.toNatClampNeg + 1 := by
  have e1 := i32_inc h h2
  have e2 := i32_nat (x := x + 1) (by omega)
  have e3 := i32_nat h
  omega
theorem dev_loop {a1 a2 : Int32} (ha : vp_in a1 8) : ∀ (m : Nat) (mt : XS) (x : Int32), lpi 32 m x → g_MO_device_63 m mt a1 a2 x = fillx mt 20 a1.toNatClampNeg x.toNatClampNeg 0 := by
  intro m
  induction m with
  | zero => intro mt x hx; exact absurd hx lpi_no
  | succ m ih =>
    intro mt x hx
    have e4 := q4e ha
    obtain ⟨h1, h2⟩ := vp_in_iff.mp ha
    have e3 := i32_nat h1
    have ex := i32_nat hx.1
    rw [g_MO_device_63]
    by_cases hcc : ((4 * a1) + 4) ≤ x
    · rw [if_pos hcc, fillx_end (by have := i32_le.mp hcc; omega)]
    · have hlt := i32_nle hcc
      rw [if_neg hcc, ih _ _ (lpi_nx hx (by omega) (by decide)), inc_n hx.1 (by omega), fillx_step (by omega)]
theorem untie_loop {a1 : Int32} (ha : vp_in a1 8) : ∀ (m : Nat) (mt : XS) (x : Int32), lpi 32 m x → g_MO_untie_11 m mt a1 x = fillx mt 24 a1.toNatClampNeg x.toNatClampNeg 0 := by
  intro m
  induction m with
  | zero => intro mt x hx; exact absurd hx lpi_no
  | succ m ih =>
    intro mt x hx
    have e4 := q4e ha
    obtain ⟨h1, h2⟩ := vp_in_iff.mp ha
    have e3 := i32_nat h1
    have ex := i32_nat hx.1
    rw [g_MO_untie_11]
    by_cases hcc : ((4 * a1) + 4) ≤ x
    · rw [if_pos hcc, fillx_end (by have := i32_le.mp hcc; omega)]
    · have hlt := i32_nle hcc
      rw [if_neg hcc, ih _ _ (lpi_nx hx (by omega) (by decide)), inc_n hx.1 (by omega), fillx_step (by omega)]
/-- the seven arrays that 'forget' writes -/
def fillF (mt : XS) (d x : Nat) : XS := fillx (fillx (fillx (fillx (fillx (fillx (fillx mt 23 d x 0) 24 d x 0) 30 d x 0) 31 d x 0) 29 d x (-1000000000)) 28 d x (-1)) 27 d x (-1000000000)
theorem fillF_step {mt : XS} {d x : Nat} (h : x < 4 * d + 4) : fillF (xu (xu (xu (xu (xu (xu (xu mt 23 x 0 0) 24 x 0 0) 30 x 0 0) 31 x 0 0) 29 x 0 (-1000000000)) 28 x 0 (-1)) 27 x 0 (-1000000000)) d (x + 1) = fillF mt d x := by
  unfold fillF
  simp (disch := decide) only [fillx_xu]
  simp only [fillx_step h]
theorem fillF_end {mt : XS} {d x : Nat} (h : 4 * d + 4 ≤ x) : fillF mt d x = mt := by
  unfold fillF
  simp only [fillx_end h]
theorem forget_loop {a1 : Int32} (ha : vp_in a1 8) : ∀ (m : Nat) (mt : XS) (x : Int32), lpi 32 m x → g_MO_forget_41 m mt a1 x = fillF mt a1.toNatClampNeg x.toNatClampNeg := by
  intro m
  induction m with
  | zero => intro mt x hx; exact absurd hx lpi_no
  | succ m ih =>
    intro mt x hx
    have e4 := q4e ha
    obtain ⟨h1, h2⟩ := vp_in_iff.mp ha
    have e3 := i32_nat h1
    have ex := i32_nat hx.1
    rw [g_MO_forget_41]
    by_cases hcc : ((4 * a1) + 4) ≤ x
    · rw [if_pos hcc, fillF_end (by have := i32_le.mp hcc; omega)]
    · have hlt := i32_nle hcc
      rw [if_neg hcc, ih _ _ (lpi_nx hx (by omega) (by decide)), inc_n hx.1 (by omega), fillF_step (by omega)]
theorem untie_eq {mt : XS} {a1 : Int32} (ha : vp_in a1 8) : f_MO_untie mt a1 = fill (xu mt 6 a1.toNatClampNeg 0 0) 24 a1.toNatClampNeg 0 := by
  unfold f_MO_untie
  rw [untie_loop ha _ _ _ (lp4_st ha), x4n ha, fillx_fill]
theorem forget_eq {mt : XS} {a1 : Int32} (ha : vp_in a1 8) : f_MO_forget mt a1 = fill (fill (fill (fill (fill (fill (fill (xu (xu (xu (xu (xu mt 6 a1.toNatClampNeg 0 0) 7 a1.toNatClampNeg 0 0) 13 a1.toNatClampNeg 0 (-1)) 14 a1.toNatClampNeg 0 (-1000000000)) 15 a1.toNatClampNeg 0 (-1000000000)) 23 a1.toNatClampNeg 0) 24 a1.toNatClampNeg 0) 30 a1.toNatClampNeg 0) 31 a1.toNatClampNeg 0) 29 a1.toNatClampNeg (-1000000000)) 28 a1.toNatClampNeg (-1)) 27 a1.toNatClampNeg (-1000000000) := by
  unfold f_MO_forget
  rw [forget_loop ha _ _ _ (lp4_st ha), x4n ha]
  rfl
/-! answers and states alike -/
def Ok (n : Nat) (B M : XS × Int32) : Prop := B.2 = M.2 ∧ RR (n + 100) B.1 M.1 ∧ Rz M.1
def OkT (n e1 : Nat) (B : Nat × Int32 × XS) (M : XS × Int32) : Prop := wK e1 B.1 = M.1 0 0 0 ∧ (B.1 = 0 → B.2.1 = M.2) ∧ RR (n + 100) B.2.2 M.1 ∧ Rz M.1
theorem RR.th {n : Nat} {st mt : XS} {v : Int32} (h : RR n st mt) : RR n st (xu mt 0 0 0 v) := by
  obtain ⟨ha, hb, hd, hn, ht, hc, hq, hv, hw, hl, hk, hi, ho, hp, hs, hm, hN⟩ := h
  exact ⟨Ra_of ha (Ag.rf) (Ag.rf.w (by decide)), Rb_of hb (Ag.rf) (Ag.rf.w (by decide)), Rd_of hd (Ag.rf) (Ag.rf.w (by decide)), Rn_of hn (Ag.rf) (Ag.rf.w (by decide)), Rt_of ht (Ag.rf) (Ag.rf.w (by decide)), Rc_of hc (Ag.rf) (Ag.rf.w (by decide)), Rq_of hq (Ag.rf.w (by decide)), Rv_of hv (Ag.rf) (Ag.rf.w (by decide)), Rw_of hw (Ag.rf) (Ag.rf.w (by decide)), Rl_of hl (Ag.rf) (Ag.rf.w (by decide)), Rk_of hk (Ag.rf) (Ag.rf.w (by decide)), Ri_of hi (Ag.rf) (Ag.rf.w (by decide)), Ro_of ho (Ag.rf) (Ag.rf.w (by decide)), Rp_of hp (Ag.rf) (Ag.rf.w (by decide)), Rs_of hs (Ag.rf) (Ag.rf.w (by decide)), Rm_of hm (Ag.rf.w (by decide)), hN⟩
theorem Rz.th {mt : XS} {v : Int32} (h : Rz mt) : Rz (xu mt 0 0 0 v) := Rz_of h (Ag.rf.w (by decide))
theorem Ok.no {n : Nat} {st mt : XS} (h : RR n st mt) (hz : Rz mt) {r : Int32} : Ok n (st, r) (xu mt 0 0 0 0, r) := ⟨rfl, h.th.mono (by omega), hz.th⟩
theorem OkT.no {n e1 ex : Nat} {st mt : XS} {r r' v : Int32} (h : RR n st mt) (hz : Rz mt) (hx : ex ≠ 0) (hv : wK e1 ex = v) : OkT n e1 (ex, r, st) (xu mt 0 0 0 v, r') := ⟨by rw [hv]; show v = xu mt 0 0 0 v 0 0 0; exact xu_s.symm, fun z => absurd z hx, h.th.mono (by omega), hz.th⟩
section EQS
variable {n : Nat} {st mt : XS} {a1 a2 : Int32}
theorem RR.opn (h : RR n st mt) : f_BN_isOpen st a1 = f_MO_isAt mt a1 1 := by
  unfold f_BN_isOpen f_MO_isAt
  by_cases e : f_BN_isDevice a1 = 0
  · rw [if_pos e, if_pos (show f_MO_isDevice a1 = 0 from e)]
  · rw [if_neg e, if_neg (show ¬ f_MO_isDevice a1 = 0 from e), (h.2.2.1 _ (xin_lt (vd_isDevice e))).1]
theorem RR.sealed (h : RR n st mt) : f_BN_isSealed st a1 = f_MO_isAt mt a1 2 := by
  unfold f_BN_isSealed f_MO_isAt
  by_cases e : f_BN_isDevice a1 = 0
  · rw [if_pos e, if_pos (show f_MO_isDevice a1 = 0 from e)]
  · rw [if_neg e, if_neg (show ¬ f_MO_isDevice a1 = 0 from e), (h.2.2.1 _ (xin_lt (vd_isDevice e))).1]
theorem at_in {w : Int32} (e : ¬ f_MO_isAt mt a1 w = 0) : vp_in a1 8 ∧ mt 2 a1.toNatClampNeg 0 = w := by
  unfold f_MO_isAt at e
  by_cases e1 : f_MO_isDevice a1 = 0
  · rw [if_pos e1] at e; exact absurd rfl e
  · rw [if_neg e1] at e
    refine ⟨vm_isDevice e1, ?_⟩
    by_cases e2 : mt 2 a1.toNatClampNeg 0 = w
    · exact e2
    · rw [if_neg e2] at e; exact absurd rfl e
theorem RR.chan (h : RR n st mt) (hd : vp_in a1 8) : f_DE_hasChannel st a1.toNatClampNeg a2 = f_MO_isChannel mt a1 a2 := by
  unfold f_DE_hasChannel f_MO_isChannel
  have e : ¬ f_MO_isDevice a1 = 0 := by
    obtain ⟨h1, h2⟩ := vp_in_iff.mp hd
    unfold f_MO_isDevice
    rw [if_neg (now_nn h1), if_neg (fun z => by have := i32_le.mp z; rw [show (8 : Int32).toInt = 8 from by decide] at this; omega)]
    decide
  rw [if_neg e, (h.2.2.1 _ (xin_lt hd)).2.2.2.1]
theorem chan_in (e : ¬ f_MO_isChannel mt a1 a2 = 0) : vp_in a1 8 ∧ 0 ≤ a2.toInt ∧ a2.toInt < (mt 5 a1.toNatClampNeg 0).toInt := by
  unfold f_MO_isChannel at e
  by_cases e1 : f_MO_isDevice a1 = 0
  · rw [if_pos e1] at e; exact absurd rfl e
  · rw [if_neg e1] at e
    by_cases e2 : a2 < 0
    · rw [if_pos e2] at e; exact absurd rfl e
    · rw [if_neg e2] at e
      by_cases e3 : mt 5 a1.toNatClampNeg 0 ≤ a2
      · rw [if_pos e3] at e; exact absurd rfl e
      · exact ⟨vm_isDevice e1, i32_nlt e2, i32_nle e3⟩
theorem RR.settable (h : RR n st mt) : f_BN_isSettable st a1 = (if f_MO_isAt mt a1 2 = 0 then 0 else if bz (mt 8 a1.toNatClampNeg 0) = 0 then 0 else 1) := by
  unfold f_BN_isSettable
  rw [h.sealed]
  by_cases e : f_MO_isAt mt a1 2 = 0
  · rw [if_pos e, if_pos e]
  · rw [if_neg e, if_neg e, (h.2.2.2.2.1 _ (xin_lt (at_in e).1)).1]
end EQS
