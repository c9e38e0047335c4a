theorem now_nn {x : Int32} (h : 0 ≤ x.toInt) : ¬ x < 0 := fun e => by have := i32_lt.mp e; have e0 : (0 : Int32).toInt = 0 := (by decide); omega
theorem lt_long {x : Int32} (h : 0 ≤ x.toInt) : ¬ x < -1000000000 := fun e => by have := i32_lt.mp e; have e0 : (-1000000000 : Int32).toInt = -1000000000 := (by decide); omega
theorem le_long {x : Int32} (h : 0 ≤ x.toInt) : ¬ x ≤ -1000000000 := fun e => by have := i32_le.mp e; have e0 : (-1000000000 : Int32).toInt = -1000000000 := (by decide); omega
theorem i32_ext {x y : Int32} (h : x.toInt = y.toInt) : x = y := Int32.toInt_inj.mp h
theorem pr_pos {x : Int32} (h : 0 ≤ x.toInt) : ¬ x ≤ 0 ↔ ¬ x = 0 := by
  have e0 : (0 : Int32).toInt = 0 := by decide
  constructor
  · intro h1 h2
    rw [h2] at h1
    exact h1 (Int32.le_refl 0)
  · intro h1 h2
    exact h1 (i32_ext (by have := i32_le.mp h2; omega))
/-- the condition of an alarm, in the reference -/
def isso (mt : XS) (k : Nat) : Prop := ¬ mt 20 k 0 ≤ 0 ∧ (¬ bz (mt 23 k 0) = 0 ∧ ¬ mt 25 k 0 ≤ mt 21 k 0) ∧ ¬ mt 0 1 0 < mt 29 k 0
theorem isSo_iff {mt : XS} {a : Int32} : ¬ f_MO_isSo mt a = 0 ↔ isso mt a.toNatClampNeg := by
  unfold f_MO_isSo f_MO_isAbove isso
  by_cases h1 : mt 20 a.toNatClampNeg 0 ≤ 0
  · simp [h1]
  · by_cases h2 : bz (mt 23 a.toNatClampNeg 0) = 0
    · simp [h1, h2]
    · by_cases h3 : mt 25 a.toNatClampNeg 0 ≤ mt 21 a.toNatClampNeg 0
      · simp [h1, h2, h3]
      · by_cases h4 : mt 0 1 0 < mt 29 a.toNatClampNeg 0
        · simp [h1, h2, h3, h4]
        · simp [h1, h2, h3, h4]
/-- one channel: settled -/
def stl (mt : XS) (k : Nat) : Prop := (bz (mt 30 k 0) = 0 → ¬ (isso mt k ∧ ¬ mt 0 1 0 - (if mt 28 k 0 ≤ mt 29 k 0 then mt 29 k 0 else mt 28 k 0) < mt 22 k 0)) ∧ (¬ bz (mt 30 k 0) = 0 → isso mt k ∨ (¬ 1 < mt 20 k 0 ∧ bz (mt 31 k 0) = 0))
theorem Rz_iff {mt : XS} : Rz mt ↔ ∀ d : Nat, d < 8 → ∀ c : Nat, c < 4 → mt 2 d 0 = 2 → (c : Int) < (mt 5 d 0).toInt → stl mt (4 * d + c) := by
  unfold Rz stl isso
  constructor
  · intro h d hd c hc h1 h2
    obtain ⟨h3, h4⟩ := h d hd c hc h1 h2
    exact ⟨fun e z => h3 e ⟨z.1.1, z.1.2.1, z.1.2.2, z.2⟩, h4⟩
  · intro h d hd c hc h1 h2
    obtain ⟨h3, h4⟩ := h d hd c hc h1 h2
    exact ⟨fun e z => h3 e ⟨⟨z.1, z.2.1, z.2.2.1⟩, z.2.2.2⟩, h4⟩
/-- the reference's step at one channel -/
def sM (mt : XS) (x1 x2 : Int32) : XS :=
  if bz (mt 30 ((4 * x1) + x2).toNatClampNeg 0) = 0 then (if f_MO_isSo mt ((4 * x1) + x2) = 0 then mt
    else if (mt 0 1 0 - f_MO_since mt ((4 * x1) + x2)) < mt 22 ((4 * x1) + x2).toNatClampNeg 0 then mt
    else f_MO_send (xu (xu (xu mt 30 ((4 * x1) + x2).toNatClampNeg 0 1) 31 ((4 * x1) + x2).toNatClampNeg 0 0) 32 ((4 * x1) + x2).toNatClampNeg 0 (mt 0 1 0)) 2 x1 x2 1 0)
  else if f_MO_isSo mt ((4 * x1) + x2) = 0 then (if 1 < mt 20 ((4 * x1) + x2).toNatClampNeg 0 then f_MO_send (xu (xu mt 30 ((4 * x1) + x2).toNatClampNeg 0 0) 31 ((4 * x1) + x2).toNatClampNeg 0 0) 2 x1 x2 0 0
    else if bz (mt 31 ((4 * x1) + x2).toNatClampNeg 0) = 0 then mt
    else f_MO_send (xu (xu mt 30 ((4 * x1) + x2).toNatClampNeg 0 0) 31 ((4 * x1) + x2).toNatClampNeg 0 0) 2 x1 x2 0 0)
  else mt
theorem gM_step (n : Nat) (mt : XS) (x1 x2 : Int32) (h1 : ¬ mt 5 x1.toNatClampNeg 0 ≤ x2) (h2 : mt 2 x1.toNatClampNeg 0 = 2) : g_MO_settle_10 (n + 1) mt x1 x2 = g_MO_settle_10 n (sM mt x1 x2) x1 (x2 + 1) := by
  rw [g_MO_settle_10, if_neg h1, if_pos h2]
  unfold sM
  repeat' split
  all_goals rfl
def sB (st : XS) (x1 x2 : Int32) : XS :=
  if (f_AL_settle st (20 * x1.toNatClampNeg + 4 * x2.toNatClampNeg) (st 0 8 0)).2 = 0 then (f_AL_settle st (20 * x1.toNatClampNeg + 4 * x2.toNatClampNeg) (st 0 8 0)).1
  else if bz ((f_AL_settle st (20 * x1.toNatClampNeg + 4 * x2.toNatClampNeg) (st 0 8 0)).1 13 7 (20 * x1.toNatClampNeg + 4 * x2.toNatClampNeg)) = 0 then f_BN_send (f_AL_settle st (20 * x1.toNatClampNeg + 4 * x2.toNatClampNeg) (st 0 8 0)).1 2 x1 x2 0
  else f_BN_send (f_AL_settle st (20 * x1.toNatClampNeg + 4 * x2.toNatClampNeg) (st 0 8 0)).1 2 x1 x2 1
theorem gB_step (n : Nat) (st : XS) (x1 x2 : Int32) (h1 : ¬ st 8 5 x1.toNatClampNeg ≤ x2) : g_BN_settleAlarms_10 (n + 1) st x1 x2 = g_BN_settleAlarms_10 n (sB st x1 x2) x1 (x2 + 1) := by
  rw [g_BN_settleAlarms_10, if_neg h1]
  unfold sB
  repeat' split
  all_goals rfl
section ONOFF
variable {n : Nat} {st mt : XS} {d c : Nat}
theorem on_R (h : RR n st mt) (hd8 : d < 8) (hc4 : c < 4) (hon : bz (mt 30 (4 * d + c) 0) = 0) (hpr : ¬ mt 20 (4 * d + c) 0 = 0) (hst : mt 2 d 0 = 2) (hch : (c : Int) < (mt 5 d 0).toInt) :
    RR n (xu (xu st 13 7 (20 * d + 4 * c) 1) 13 9 (20 * d + 4 * c) (st 0 8 0)) (xu (xu (xu mt 30 (4 * d + c) 0 1) 31 (4 * d + c) 0 0) 32 (4 * d + c) 0 (mt 0 1 0)) := by
  obtain ⟨ha, hb, hd, hn, ht, hc, hq, hv, hw, hl, hk, hi, ho, hp, hs, hm, hN⟩ := h
  refine ⟨Ra_of ha ((Ag.rf.w (by decide)).w (by decide)) (((Ag.rf.wa (by decide)).wa (by decide)).wa (by decide)), Rb_of hb ((Ag.rf.w (by decide)).w (by decide)) (((Ag.rf.wa (by decide)).wa (by decide)).wa (by decide)), Rd_of hd ((Ag.rf.w (by decide)).w (by decide)) (((Ag.rf.wa (by decide)).wa (by decide)).wa (by decide)), Rn_of hn ((Ag.rf.w (by decide)).w (by decide)) (((Ag.rf.wa (by decide)).wa (by decide)).wa (by decide)), Rt_of ht ((Ag.rf.w (by decide)).w (by decide)) (((Ag.rf.wa (by decide)).wa (by decide)).wa (by decide)), Rc_of hc ((Ag.rf.w (by decide)).w (by decide)) (((Ag.rf.wa (by decide)).wa (by decide)).wa (by decide)), ?_, Rv_of hv ((Ag.rf.w (by decide)).w (by decide)) (((Ag.rf.wa (by decide)).wa (by decide)).wa (by decide)), Rw_of hw ((Ag.rf.w (by decide)).w (by decide)) (((Ag.rf.wa (by decide)).wa (by decide)).wa (by decide)), ?_, Rk_of hk ((Ag.rf.w (by decide)).w (by decide)) (((Ag.rf.wa (by decide)).wa (by decide)).wa (by decide)), Ri_of hi ((Ag.rf.w (by decide)).w (by decide)) (((Ag.rf.wa (by decide)).wa (by decide)).wa (by decide)), Ro_of ho ((Ag.rf.w (by decide)).w (by decide)) (((Ag.rf.wa (by decide)).wa (by decide)).wa (by decide)), Rp_of hp ((Ag.rf.w (by decide)).w (by decide)) (((Ag.rf.wa (by decide)).wa (by decide)).wa (by decide)), Rs_of hs ((Ag.rf.w (by decide)).w (by decide)) (((Ag.rf.wa (by decide)).wa (by decide)).wa (by decide)), Rm_of hm (((Ag.rf.wa (by decide)).wa (by decide)).wa (by decide)), hN⟩
  · intro d' hd' c' hc' hno
    have h0 := hq d' hd' c' hc' (by simpa (disch := decide) only [xu_a] using hno)
    simp (disch := decide) only [xu_a] at hno ⊢
    have hk : 4 * d' + c' ≠ 4 * d + c := fun e => hno (by
      obtain ⟨rfl, rfl⟩ : d' = d ∧ c' = c := by omega
      exact ⟨hst, hch⟩)
    simp only [xu_k hk]
    exact h0
  · intro d' hd' c' hc'
    have h0 := hl d' hd' c' hc'
    by_cases e : d' = d ∧ c' = c
    · obtain ⟨rfl, rfl⟩ := e
      simp (disch := decide) only [xu_s, xu_f, xu_a] at h0 ⊢
      obtain ⟨l1, l2, l3, l4, l5, l6, l7⟩ := h0
      refine ⟨l1, l2, l3, trivial, ?_, fun z => absurd z (by decide), fun _ => ⟨hpr, ha.1⟩⟩
      rw [l5, l6 hon]
      rfl
    · have hq : 20 * d' + 4 * c' ≠ 20 * d + 4 * c := by omega
      have hk : 4 * d' + c' ≠ 4 * d + c := by omega
      have eS : ∀ k0, xu (xu st 13 7 (20 * d + 4 * c) 1) 13 9 (20 * d + 4 * c) (st 0 8 0) 13 k0 (20 * d' + 4 * c') = st 13 k0 (20 * d' + 4 * c') := fun k0 => by simp [xu, hq]
      have eM : ∀ a, xu (xu (xu mt 30 (4 * d + c) 0 1) 31 (4 * d + c) 0 0) 32 (4 * d + c) 0 (mt 0 1 0) a (4 * d' + c') 0 = mt a (4 * d' + c') 0 := fun a => by simp [xu, hk]
      simp only [eS, eM]
      exact h0
theorem off_R (h : RR n st mt) (hd8 : d < 8) (hc4 : c < 4) : RR n (xu (xu st 13 7 (20 * d + 4 * c) 0) 13 8 (20 * d + 4 * c) 0) (xu (xu mt 30 (4 * d + c) 0 0) 31 (4 * d + c) 0 0) := by
  obtain ⟨ha, hb, hd, hn, ht, hc, hq, hv, hw, hl, hk, hi, ho, hp, hs, hm, hN⟩ := h
  refine ⟨Ra_of ha ((Ag.rf.w (by decide)).w (by decide)) ((Ag.rf.wa (by decide)).wa (by decide)), Rb_of hb ((Ag.rf.w (by decide)).w (by decide)) ((Ag.rf.wa (by decide)).wa (by decide)), Rd_of hd ((Ag.rf.w (by decide)).w (by decide)) ((Ag.rf.wa (by decide)).wa (by decide)), Rn_of hn ((Ag.rf.w (by decide)).w (by decide)) ((Ag.rf.wa (by decide)).wa (by decide)), Rt_of ht ((Ag.rf.w (by decide)).w (by decide)) ((Ag.rf.wa (by decide)).wa (by decide)), Rc_of hc ((Ag.rf.w (by decide)).w (by decide)) ((Ag.rf.wa (by decide)).wa (by decide)), ?_, Rv_of hv ((Ag.rf.w (by decide)).w (by decide)) ((Ag.rf.wa (by decide)).wa (by decide)), Rw_of hw ((Ag.rf.w (by decide)).w (by decide)) ((Ag.rf.wa (by decide)).wa (by decide)), ?_, Rk_of hk ((Ag.rf.w (by decide)).w (by decide)) ((Ag.rf.wa (by decide)).wa (by decide)), Ri_of hi ((Ag.rf.w (by decide)).w (by decide)) ((Ag.rf.wa (by decide)).wa (by decide)), Ro_of ho ((Ag.rf.w (by decide)).w (by decide)) ((Ag.rf.wa (by decide)).wa (by decide)), Rp_of hp ((Ag.rf.w (by decide)).w (by decide)) ((Ag.rf.wa (by decide)).wa (by decide)), Rs_of hs ((Ag.rf.w (by decide)).w (by decide)) ((Ag.rf.wa (by decide)).wa (by decide)), Rm_of hm ((Ag.rf.wa (by decide)).wa (by decide)), hN⟩
  · intro d' hd' c' hc' hno
    have h0 := hq d' hd' c' hc' (by simpa (disch := decide) only [xu_a] using hno)
    by_cases hk : 4 * d' + c' = 4 * d + c
    · rw [hk] at h0 ⊢
      simp (disch := decide) only [xu_s, xu_a] at h0 ⊢
      exact ⟨h0.1, rfl, h0.2.2⟩
    · have eM : ∀ a, xu (xu mt 30 (4 * d + c) 0 0) 31 (4 * d + c) 0 0 a (4 * d' + c') 0 = mt a (4 * d' + c') 0 := fun a => by simp [xu, hk]
      simp only [eM]
      exact h0
  · intro d' hd' c' hc'
    have h0 := hl d' hd' c' hc'
    by_cases e : d' = d ∧ c' = c
    · obtain ⟨rfl, rfl⟩ := e
      simp (disch := decide) only [xu_s, xu_f, xu_a] at h0 ⊢
      obtain ⟨l1, l2, l3, l4, l5, l6, l7⟩ := h0
      exact ⟨l1, l2, l3, trivial, trivial, fun _ => rfl, fun z => absurd rfl z⟩
    · have hq : 20 * d' + 4 * c' ≠ 20 * d + 4 * c := by omega
      have hk : 4 * d' + c' ≠ 4 * d + c := by omega
      have eS : ∀ k0, xu (xu st 13 7 (20 * d + 4 * c) 0) 13 8 (20 * d + 4 * c) 0 13 k0 (20 * d' + 4 * c') = st 13 k0 (20 * d' + 4 * c') := fun k0 => by simp [xu, hq]
      have eM : ∀ a, xu (xu mt 30 (4 * d + c) 0 0) 31 (4 * d + c) 0 0 a (4 * d' + c') 0 = mt a (4 * d' + c') 0 := fun a => by simp [xu, hk]
      simp only [eS, eM]
      exact h0
end ONOFF
theorem i32_11 {x : Int32} (h : 0 ≤ x.toInt) (h0 : ¬ x = 0) : (1 < x) ↔ ¬ x = 1 := by
  have e0 : (0 : Int32).toInt = 0 := by decide
  have e1 : (1 : Int32).toInt = 1 := by decide
  constructor
  · intro h1 h2
    rw [h2] at h1
    exact absurd h1 (by decide)
  · intro h1
    refine i32_lt.mpr ?_
    rw [e1]
    have a1 : x.toInt ≠ 0 := fun e => h0 (i32_ext (e.trans e0.symm))
    have a2 : x.toInt ≠ 1 := fun e => h1 (i32_ext (e.trans e1.symm))
    omega
/-- the class's step at one channel: what it is, by the reference's words -/
theorem sB_eq {n : Nat} {st mt : XS} (h : RR n st mt) {x1 x2 : Int32} (hx1 : vp_in x1 8) (hx2 : vp_in x2 4) (hch : (x2.toNatClampNeg : Int) < (mt 5 x1.toNatClampNeg 0).toInt) :
    sB st x1 x2 = (if bz (mt 30 (4 * x1.toNatClampNeg + x2.toNatClampNeg) 0) = 0 then (if f_MO_isSo mt ((4 * x1) + x2) = 0 then st
      else if (mt 0 1 0 - (if mt 28 (4 * x1.toNatClampNeg + x2.toNatClampNeg) 0 ≤ mt 29 (4 * x1.toNatClampNeg + x2.toNatClampNeg) 0 then mt 29 (4 * x1.toNatClampNeg + x2.toNatClampNeg) 0 else mt 28 (4 * x1.toNatClampNeg + x2.toNatClampNeg) 0)) < mt 22 (4 * x1.toNatClampNeg + x2.toNatClampNeg) 0 then st
      else f_BN_send (xu (xu st 13 7 (20 * x1.toNatClampNeg + 4 * x2.toNatClampNeg) 1) 13 9 (20 * x1.toNatClampNeg + 4 * x2.toNatClampNeg) (st 0 8 0)) 2 x1 x2 1)
    else if f_MO_isSo mt ((4 * x1) + x2) = 0 then (if 1 < mt 20 (4 * x1.toNatClampNeg + x2.toNatClampNeg) 0 ∨ ¬ bz (mt 31 (4 * x1.toNatClampNeg + x2.toNatClampNeg) 0) = 0 then f_BN_send (xu (xu st 13 7 (20 * x1.toNatClampNeg + 4 * x2.toNatClampNeg) 0) 13 8 (20 * x1.toNatClampNeg + 4 * x2.toNatClampNeg) 0) 2 x1 x2 0 else st)
    else st) := by
  obtain ⟨ha, hb, hd, hn, ht, hc, hq, hv, hw, hl, hk, hi, ho, hp, hs, hm, hN⟩ := h
  have d8 := xin_lt hx1
  have c4 := xin_lt hx2
  have hiso := isSo_iff (mt := mt) (a := (4 * x1) + x2)
  rw [t4 hx1 hx2] at hiso
  obtain ⟨l1, l2, l3, l4, l5, l6, l7⟩ := hl _ d8 _ c4
  obtain ⟨c1, c2, c3⟩ := hc _ d8 _ c4
  obtain ⟨-, -, -, -, -, c5, c6⟩ := c1 hch
  generalize hk9 : 4 * x1.toNatClampNeg + x2.toNatClampNeg = k at *
  generalize hq9 : 20 * x1.toNatClampNeg + 4 * x2.toNatClampNeg = q at *
  have hso : ¬ f_MO_isSo mt ((4 * x1) + x2) = 0 ↔ (¬ bz (st 13 4 q) = 0 ∧ ¬ st 0 8 0 < st 13 6 q) := by
    rw [hiso]
    unfold isso
    rw [l1, pr_pos c3, ha.1]
    have hqt : mt 0 1 0 < mt 29 k 0 ↔ mt 0 1 0 < st 13 6 q := by
      rcases l3 with ⟨e, -⟩ | ⟨e1, e2⟩
      · rw [e]
      · rw [e1, e2]
        exact ⟨fun z => absurd z (lt_long ha.2.1), fun z => absurd z (now_nn ha.2.1)⟩
    rw [hqt]
    constructor
    · intro z; exact ⟨⟨z.1, z.2.1.1, z.2.1.2⟩, z.2.2⟩
    · intro z; exact ⟨z.1.1, ⟨z.1.2.1, z.1.2.2⟩, z.2⟩
  unfold sB f_AL_settle
  rw [hq9]
  rw [← l4, ← l5]
  by_cases hA : bz (st 13 4 q) = 0
  · have hn1 : f_MO_isSo mt ((4 * x1) + x2) = 0 := Decidable.not_not.mp (fun z => (hso.mp z).1 hA)
    simp only [hA, if_true, hn1]
    by_cases hO : bz (st 13 7 q) = 0
    · simp only [hO, if_true]
    · obtain ⟨p1, p2⟩ := l7 (by rw [← l4]; exact hO)
      have hp := (c6 p1).1
      have h11 := i32_11 c3 p1
      simp only [hO, if_false, hp]
      by_cases hP : mt 20 k 0 = 1
      · have hn2 : ¬ 1 < mt 20 k 0 := fun z => h11.mp z hP
        by_cases hK : bz (st 13 8 q) = 0
        · simp [hP, hK]
        · simp [hP, hK, xu, bz_0]
      · have hn2 : 1 < mt 20 k 0 := h11.mpr hP
        simp [hP, hn2, xu, bz_0]
  · by_cases hQ : st 0 8 0 < st 13 6 q
    · have hn1 : f_MO_isSo mt ((4 * x1) + x2) = 0 := Decidable.not_not.mp (fun z => (hso.mp z).2 hQ)
      simp only [hA, if_false, hQ, if_true, hn1]
      by_cases hO : bz (st 13 7 q) = 0
      · simp only [hO, if_true]
      · obtain ⟨p1, p2⟩ := l7 (by rw [← l4]; exact hO)
        have hp := (c6 p1).1
        have h11 := i32_11 c3 p1
        simp only [hO, if_false, hp]
        by_cases hP : mt 20 k 0 = 1
        · by_cases hK : bz (st 13 8 q) = 0
          · simp [hP, hK]
          · simp [hP, hK, xu, bz_0]
        · have hn2 : 1 < mt 20 k 0 := h11.mpr hP
          simp [hP, hn2, xu, bz_0]
    · have hn1 : ¬ f_MO_isSo mt ((4 * x1) + x2) = 0 := hso.mpr ⟨hA, hQ⟩
      obtain ⟨a1, a2⟩ := l2 hA
      have hpr := (l1.mp hA).1
      have hdl := (c6 hpr).2.2
      have hmax : (if st 13 5 q < st 13 6 q then st 13 6 q else st 13 5 q) = (if mt 28 k 0 ≤ mt 29 k 0 then mt 29 k 0 else mt 28 k 0) := by
        rw [a1]
        rcases l3 with ⟨e, -⟩ | ⟨e1, e2⟩
        · rw [e]
          by_cases z : mt 28 k 0 < mt 29 k 0
          · rw [if_pos z, if_pos (Int32.le_of_lt z)]
          · rw [if_neg z]
            by_cases z2 : mt 28 k 0 ≤ mt 29 k 0
            · rw [if_pos z2]
              refine i32_ext ?_
              have := i32_le.mp z2
              have h3 : ¬ (mt 28 k 0).toInt < (mt 29 k 0).toInt := fun h => z (i32_lt.mpr h)
              omega
            · rw [if_neg z2]
        · rw [e1, e2, if_neg (now_nn a2), if_neg (le_long a2)]
      simp only [hA, if_false, hQ, hn1]
      by_cases hO : bz (st 13 7 q) = 0
      · simp only [hO, if_true]
        rw [hmax, hdl, ha.1]
        by_cases hD : mt 22 k 0 ≤ mt 0 1 0 - (if mt 28 k 0 ≤ mt 29 k 0 then mt 29 k 0 else mt 28 k 0)
        · have hD2 : ¬ (mt 0 1 0 - (if mt 28 k 0 ≤ mt 29 k 0 then mt 29 k 0 else mt 28 k 0)) < mt 22 k 0 := fun z => absurd (i32_le.mp hD) (by have := i32_lt.mp z; omega)
          rw [if_pos hD, if_neg hD2]
          simp [xu, bz_1]
        · rw [if_neg hD, if_pos (i32_lt.mpr (i32_nle hD))]
          simp
      · simp [hO]
theorem RR.mono {n n' : Nat} {st mt : XS} (h : RR n st mt) (hn' : n ≤ n') : RR n' st mt := by
  obtain ⟨ha, hb, hd, hn, ht, hc, hq, hv, hw, hl, hk, hi, ho, hp, hs, hm, hN⟩ := h
  exact ⟨ha, hb, hd, hn, ht, hc, hq, hv, hw, hl, hk, hi, ho, hp, hs, hm, by omega⟩
theorem sM_at {mt : XS} {x1 x2 : Int32} {a k' : Nat} (h : (a = 30 ∨ a = 31 ∨ a = 32) → k' ≠ ((4 * x1) + x2).toNatClampNeg) (ha : a ∉ ([0, 36, 37, 38, 39, 40, 41, 42, 43] : List Nat)) : sM mt x1 x2 a k' 0 = mt a k' 0 := by
  have h0 : a ≠ 0 := fun e => ha (by rw [e]; decide)
  have hf : ∀ (m2 : XS) (v : Int32), f_MO_send m2 2 x1 x2 v 0 a k' 0 = m2 a k' 0 := fun m2 v => fr_MO_send (by simp [h0]) (fun e => ha (by simp only [List.mem_cons, List.not_mem_nil, or_false] at e ⊢; exact Or.inr e))
  have hx : ∀ (m2 : XS) (a2 : Nat) (v : Int32), (a2 = 30 ∨ a2 = 31 ∨ a2 = 32) → xu m2 a2 ((4 * x1) + x2).toNatClampNeg 0 v a k' 0 = m2 a k' 0 := fun m2 a2 v e => xu_n (fun z => h (by rw [z.1]; exact e) z.2.1)
  unfold sM
  split
  · split
    · rfl
    · split
      · rfl
      · rw [hf, hx _ _ _ (by simp), hx _ _ _ (by simp), hx _ _ _ (by simp)]
  · split
    · split
      · rw [hf, hx _ _ _ (by simp), hx _ _ _ (by simp)]
      · split
        · rfl
        · rw [hf, hx _ _ _ (by simp), hx _ _ _ (by simp)]
    · rfl
theorem sM_01 {mt : XS} {x1 x2 : Int32} : sM mt x1 x2 0 1 0 = mt 0 1 0 := by
  have hf : ∀ (m2 : XS) (v : Int32), f_MO_send m2 2 x1 x2 v 0 0 1 0 = m2 0 1 0 := fun m2 v => fr_MO_send (by decide) (by decide)
  unfold sM
  repeat' split
  all_goals (try rw [hf])
  all_goals (simp (disch := decide) only [xu_a])
theorem stl_of {mt mt' : XS} {k : Nat} (h : stl mt k) (e : ∀ a ∈ ([20, 21, 22, 23, 25, 28, 29, 30, 31] : List Nat), mt' a k 0 = mt a k 0) (e0 : mt' 0 1 0 = mt 0 1 0) : stl mt' k := by
  unfold stl isso at h ⊢
  rw [e 20 (by decide), e 21 (by decide), e 22 (by decide), e 23 (by decide), e 25 (by decide), e 28 (by decide), e 29 (by decide), e 30 (by decide), e 31 (by decide), e0]
  exact h
theorem since_eq {mt : XS} {a : Int32} : f_MO_since mt a = (if mt 28 a.toNatClampNeg 0 ≤ mt 29 a.toNatClampNeg 0 then mt 29 a.toNatClampNeg 0 else mt 28 a.toNatClampNeg 0) := rfl
theorem step_R {n : Nat} {st mt : XS} (h : RR n st mt) (hb9 : n < 2147483647) {x1 x2 : Int32} (hx1 : vp_in x1 8) (hx2 : vp_in x2 4) (hst : mt 2 x1.toNatClampNeg 0 = 2) (hch : (x2.toNatClampNeg : Int) < (mt 5 x1.toNatClampNeg 0).toInt) :
    RR (n + 1) (sB st x1 x2) (sM mt x1 x2) ∧ stl (sM mt x1 x2) (4 * x1.toNatClampNeg + x2.toNatClampNeg) := by
  have d8 := xin_lt hx1
  have c4 := xin_lt hx2
  have hx2i := vp_in_iff.mp hx2
  have hx2n := i32_nat hx2i.1
  have hkk := t4 hx1 hx2
  have hiso := isSo_iff (mt := mt) (a := (4 * x1) + x2)
  rw [sB_eq h hx1 hx2 hch]
  unfold sM
  rw [since_eq]
  rw [hkk] at hiso ⊢
  have hl := h.2.2.2.2.2.2.2.2.2.1
  have hc := h.2.2.2.2.2.1
  have hsend : ∀ {s2 m2 : XS} {v : Int32}, RR n s2 m2 → m2 2 x1.toNatClampNeg 0 = 2 → m2 5 x1.toNatClampNeg 0 = mt 5 x1.toNatClampNeg 0 → RR (n + 1) (f_BN_send s2 2 x1 x2 v) (f_MO_send m2 2 x1 x2 v 0) := by
    intro s2 m2 v h2 e1 e2
    exact send_R h2 hb9 hx1 (by decide) e1 (fun _ => ⟨hx2i.1, by rw [e2]; omega⟩) (fun z => absurd z (by decide)) (fun z => absurd z (by decide)) (fun z => absurd z (by decide))
  have hfs : ∀ (m2 : XS) (v : Int32) (a k' : Nat), a ∉ ([0, 36, 37, 38, 39, 40, 41, 42, 43] : List Nat) → f_MO_send m2 2 x1 x2 v 0 a k' 0 = m2 a k' 0 := fun m2 v a k' ha => fr_MO_send (by have : a ≠ 0 := fun e => ha (by rw [e]; decide); simp [this]) (fun e => ha (by simp only [List.mem_cons, List.not_mem_nil, or_false] at e ⊢; exact Or.inr e))
  have hf0 : ∀ (m2 : XS) (v : Int32), f_MO_send m2 2 x1 x2 v 0 0 1 0 = m2 0 1 0 := fun m2 v => fr_MO_send (by decide) (by decide)
  by_cases hO : bz (mt 30 (4 * x1.toNatClampNeg + x2.toNatClampNeg) 0) = 0
  · rw [if_pos hO, if_pos hO]
    by_cases hS : f_MO_isSo mt ((4 * x1) + x2) = 0
    · rw [if_pos hS, if_pos hS]
      exact ⟨h.mono (by omega), ⟨fun _ z => hiso.mpr z.1 hS, fun z => absurd hO z⟩⟩
    · rw [if_neg hS, if_neg hS]
      have hso := hiso.mp hS
      by_cases hD : (mt 0 1 0 - (if mt 28 (4 * x1.toNatClampNeg + x2.toNatClampNeg) 0 ≤ mt 29 (4 * x1.toNatClampNeg + x2.toNatClampNeg) 0 then mt 29 (4 * x1.toNatClampNeg + x2.toNatClampNeg) 0 else mt 28 (4 * x1.toNatClampNeg + x2.toNatClampNeg) 0)) < mt 22 (4 * x1.toNatClampNeg + x2.toNatClampNeg) 0
      · rw [if_pos hD, if_pos hD]
        exact ⟨h.mono (by omega), ⟨fun _ z => z.2 hD, fun z => absurd hO z⟩⟩
      · rw [if_neg hD, if_neg hD]
        have hpr : ¬ mt 20 (4 * x1.toNatClampNeg + x2.toNatClampNeg) 0 = 0 := (pr_pos (hc _ d8 _ c4).2.2).mp hso.1
        refine ⟨hsend (on_R h d8 c4 hO hpr hst hch) (by simp (disch := decide) only [xu_a]; exact hst) (by simp (disch := decide) only [xu_a]), ?_⟩
        unfold stl isso
        simp only [hfs _ _ 20 _ (by decide), hfs _ _ 21 _ (by decide), hfs _ _ 22 _ (by decide), hfs _ _ 23 _ (by decide), hfs _ _ 25 _ (by decide), hfs _ _ 28 _ (by decide), hfs _ _ 29 _ (by decide), hfs _ _ 30 _ (by decide), hfs _ _ 31 _ (by decide), hf0]
        simp (disch := decide) only [xu_s, xu_a]
        exact ⟨fun z => absurd z (by decide), fun _ => Or.inl hso⟩
  · rw [if_neg hO, if_neg hO]
    have hoff : ∀ (hS : f_MO_isSo mt ((4 * x1) + x2) = 0), RR (n + 1) (f_BN_send (xu (xu st 13 7 (20 * x1.toNatClampNeg + 4 * x2.toNatClampNeg) 0) 13 8 (20 * x1.toNatClampNeg + 4 * x2.toNatClampNeg) 0) 2 x1 x2 0) (f_MO_send (xu (xu mt 30 (4 * x1.toNatClampNeg + x2.toNatClampNeg) 0 0) 31 (4 * x1.toNatClampNeg + x2.toNatClampNeg) 0 0) 2 x1 x2 0 0) ∧ stl (f_MO_send (xu (xu mt 30 (4 * x1.toNatClampNeg + x2.toNatClampNeg) 0 0) 31 (4 * x1.toNatClampNeg + x2.toNatClampNeg) 0 0) 2 x1 x2 0 0) (4 * x1.toNatClampNeg + x2.toNatClampNeg) := by
      intro hS
      refine ⟨hsend (off_R h d8 c4) (by simp (disch := decide) only [xu_a]; exact hst) (by simp (disch := decide) only [xu_a]), ?_⟩
      unfold stl isso
      simp only [hfs _ _ 20 _ (by decide), hfs _ _ 21 _ (by decide), hfs _ _ 22 _ (by decide), hfs _ _ 23 _ (by decide), hfs _ _ 25 _ (by decide), hfs _ _ 28 _ (by decide), hfs _ _ 29 _ (by decide), hfs _ _ 30 _ (by decide), hfs _ _ 31 _ (by decide), hf0]
      simp (disch := decide) only [xu_s, xu_a]
      exact ⟨fun _ z => hiso.mpr z.1 hS, fun z => absurd rfl z⟩
    by_cases hS : f_MO_isSo mt ((4 * x1) + x2) = 0
    · rw [if_pos hS, if_pos hS]
      by_cases hP : 1 < mt 20 (4 * x1.toNatClampNeg + x2.toNatClampNeg) 0
      · rw [if_pos (Or.inl hP), if_pos hP]
        exact hoff hS
      · by_cases hK : bz (mt 31 (4 * x1.toNatClampNeg + x2.toNatClampNeg) 0) = 0
        · rw [if_neg (fun z => z.elim hP (fun y => y hK)), if_neg hP, if_pos hK]
          exact ⟨h.mono (by omega), ⟨fun z => absurd z hO, fun _ => Or.inr ⟨hP, hK⟩⟩⟩
        · rw [if_pos (Or.inr hK), if_neg hP, if_neg hK]
          exact hoff hS
    · rw [if_neg hS, if_neg hS]
      exact ⟨h.mono (by omega), ⟨fun z => absurd z hO, fun _ => Or.inl (hiso.mp hS)⟩⟩
/-- settled so far -/
def Sf (mt : XS) (D C : Nat) : Prop := ∀ d c : Nat, d < 8 → c < 4 → mt 2 d 0 = 2 → (c : Int) < (mt 5 d 0).toInt → (d < D ∨ (d = D ∧ c < C)) → stl mt (4 * d + c)
theorem Sf_step {mt : XS} {x1 x2 : Int32} (hx1 : vp_in x1 8) (hx2 : vp_in x2 4) (h : Sf mt x1.toNatClampNeg x2.toNatClampNeg) (h1 : stl (sM mt x1 x2) (4 * x1.toNatClampNeg + x2.toNatClampNeg)) : Sf (sM mt x1 x2) x1.toNatClampNeg (x2.toNatClampNeg + 1) := by
  intro d c hd hc e1 e2 hlt
  have c4 := xin_lt hx2
  have hkk := t4 hx1 hx2
  rw [sM_at (by simp) (by decide)] at e1 e2
  by_cases e : 4 * d + c = 4 * x1.toNatClampNeg + x2.toNatClampNeg
  · rw [e]; exact h1
  · refine stl_of (h d c hd hc e1 e2 (by omega)) (fun a ha => sM_at (fun _ => by rw [hkk]; exact e) (fun z => ?_)) sM_01
    revert ha z
    simp only [List.mem_cons, List.not_mem_nil, or_false]
    omega
theorem Sf_next {mt : XS} {D C : Nat} (h : Sf mt D C) (h1 : ¬ mt 2 D 0 = 2 ∨ (mt 5 D 0).toInt ≤ (C : Int)) : Sf mt (D + 1) 0 := by
  intro d c hd hc e1 e2 hlt
  refine h d c hd hc e1 e2 ?_
  by_cases e : d = D
  · subst e
    refine Or.inr ⟨rfl, ?_⟩
    rcases h1 with h1 | h1
    · exact absurd e1 h1
    · omega
  · exact Or.inl (by omega)
theorem in_R {x1 : Int32} (hx1 : vp_in x1 8) : ∀ (m : Nat) (st mt : XS) (x2 : Int32) (n : Nat), RR n st mt → lpi 4 m x2 → mt 2 x1.toNatClampNeg 0 = 2 → Sf mt x1.toNatClampNeg x2.toNatClampNeg → n + m < 2147483647 → RR (n + m) (g_BN_settleAlarms_10 m st x1 x2) (g_MO_settle_10 m mt x1 x2) ∧ Sf (g_MO_settle_10 m mt x1 x2) (x1.toNatClampNeg + 1) 0 := by
  intro m
  induction m with
  | zero => intro st mt x2 n h hx; exact absurd hx lpi_no
  | succ m ih =>
    intro st mt x2 n h hx hst hS hb9
    have d8 := xin_lt hx1
    have hd := h.2.2.1 _ d8
    have e5 := hd.2.2.2.1
    have hx2n := i32_nat hx.1
    by_cases hcc : mt 5 x1.toNatClampNeg 0 ≤ x2
    · rw [g_BN_settleAlarms_10, if_pos (by rw [e5]; exact hcc), g_MO_settle_10, if_pos hcc]
      exact ⟨h.mono (by omega), Sf_next hS (Or.inr (by have := i32_le.mp hcc; omega))⟩
    · have hlt := i32_nle hcc
      have h4 : x2.toInt < (4 : Nat) := by have := hd.2.2.2.2.2.1.2; omega
      have hx2 : vp_in x2 4 := vp_in_iff.mpr ⟨hx.1, h4⟩
      rw [gB_step _ _ _ _ (by rw [e5]; exact hcc), gM_step _ _ _ _ hcc hst]
      obtain ⟨r1, r2⟩ := step_R h (by omega) hx1 hx2 hst (by omega)
      have hinc : (x2 + 1).toNatClampNeg = x2.toNatClampNeg + 1 := by
        have e1 := i32_inc hx.1 (by omega)
        have e2 := i32_nat (x := x2 + 1) (by omega)
        omega
      have hS2 := Sf_step hx1 hx2 hS r2
      rw [← hinc] at hS2
      have q := ih (sB st x1 x2) (sM mt x1 x2) (x2 + 1) (n + 1) r1 (lpi_nx hx h4 (by decide)) (by rw [sM_at (by simp) (by decide)]; exact hst) hS2 (by omega)
      rw [show n + (m + 1) = n + 1 + m by omega]
      exact q
theorem in_no {n : Nat} {st mt : XS} (h : RR n st mt) {x1 : Int32} (hx1 : vp_in x1 8) (hst : ¬ mt 2 x1.toNatClampNeg 0 = 2) : ∀ (m : Nat) (x2 : Int32), lpi 4 m x2 → g_BN_settleAlarms_10 m st x1 x2 = st := by
  intro m
  induction m with
  | zero => intro x2 hx; exact absurd hx lpi_no
  | succ m ih =>
    intro x2 hx
    have d8 := xin_lt hx1
    have hd := h.2.2.1 _ d8
    have e5 := hd.2.2.2.1
    by_cases hcc : st 8 5 x1.toNatClampNeg ≤ x2
    · rw [g_BN_settleAlarms_10, if_pos hcc]
    · have hlt := i32_nle hcc
      rw [e5] at hlt
      have h4 : x2.toInt < (4 : Nat) := by have := hd.2.2.2.2.2.1.2; omega
      have hx2 : vp_in x2 4 := vp_in_iff.mpr ⟨hx.1, h4⟩
      have c4 := xin_lt hx2
      obtain ⟨q1, q2, q3⟩ := h.2.2.2.2.2.2.1 _ d8 _ c4 (fun z => hst z.1)
      obtain ⟨l1, l2, l3, l4, l5, l6, l7⟩ := h.2.2.2.2.2.2.2.2.2.1 _ d8 _ c4
      have hA : bz (st 13 4 (20 * x1.toNatClampNeg + 4 * x2.toNatClampNeg)) = 0 := Decidable.not_not.mp (fun z => (l1.mp z).2.1 q1)
      have hO : bz (st 13 7 (20 * x1.toNatClampNeg + 4 * x2.toNatClampNeg)) = 0 := l4.trans q2
      have hs : sB st x1 x2 = st := by
        unfold sB f_AL_settle
        simp only [hA, if_true, hO]
      rw [gB_step _ _ _ _ hcc, hs]
      exact ih _ (lpi_nx hx h4 (by decide))
theorem out_R : ∀ (m : Nat) (st mt : XS) (x1 : Int32) (n : Nat), RR n st mt → lpi 8 m x1 → Sf mt x1.toNatClampNeg 0 → n + 5 * m < 2147483647 → RR (n + 5 * m) (g_BN_settleAlarms_2 m st x1) (g_MO_settle_2 m mt x1) ∧ Rz (g_MO_settle_2 m mt x1) := by
  intro m
  induction m with
  | zero => intro st mt x1 n h hx; exact absurd hx lpi_no
  | succ m ih =>
    intro st mt x1 n h hx hS hb9
    have hx1n := i32_nat hx.1
    rw [g_BN_settleAlarms_2, g_MO_settle_2]
    by_cases hcc : 8 ≤ x1
    · rw [if_pos hcc, if_pos hcc]
      have h8 : (8 : Int32).toInt = 8 := by decide
      have hle := i32_le.mp hcc
      have hx1l := hx.2.1
      refine ⟨h.mono (by omega), Rz_iff.mpr (fun d hd c hc e1 e2 => hS d c hd hc e1 e2 (Or.inl (by omega)))⟩
    · rw [if_neg hcc, if_neg hcc]
      have hlt := lpi_c hx hcc i32_8
      have hx1 : vp_in x1 8 := lpi_ix hx hlt (by decide)
      have hinc : (x1 + 1).toNatClampNeg = x1.toNatClampNeg + 1 := by
        have e1 := i32_inc hx.1 (by omega)
        have e2 := i32_nat (x := x1 + 1) (by omega)
        omega
      have hnx := lpi_nx hx hlt (by decide)
      rw [show n + 5 * (m + 1) = n + 5 + 5 * m by omega]
      by_cases hst : mt 2 x1.toNatClampNeg 0 = 2
      · obtain ⟨r1, r2⟩ := in_R hx1 5 st mt 0 n h lpi_st hst hS (by omega)
        rw [← hinc] at r2
        exact ih _ _ _ _ r1 hnx r2 (by omega)
      · rw [in_no h hx1 hst 5 0 lpi_st]
        have e0 : g_MO_settle_10 5 mt x1 0 = mt := by
          rw [g_MO_settle_10]
          split
          · rfl
          · rfl
        rw [e0]
        have hS2 := Sf_next hS (Or.inl hst)
        rw [← hinc] at hS2
        exact ih _ _ _ _ (h.mono (by omega)) hnx hS2 (by omega)
theorem settle_R {n : Nat} {st mt : XS} (h : RR n st mt) (hb9 : n + 45 < 2147483647) : RR (n + 45) (f_BN_settleAlarms st) (f_MO_settle mt) ∧ Rz (f_MO_settle mt) :=
  out_R 9 st mt 0 n h lpi_st (fun d c _ _ _ _ hlt => by rcases hlt with z | z <;> (rw [show (0 : Int32).toNatClampNeg = 0 from by decide] at z; omega)) hb9
theorem sM_id {mt : XS} {x1 x2 : Int32} (hx1 : vp_in x1 8) (hx2 : vp_in x2 4) (h : stl mt (4 * x1.toNatClampNeg + x2.toNatClampNeg)) : sM mt x1 x2 = mt := by
  have hkk := t4 hx1 hx2
  have hiso := isSo_iff (mt := mt) (a := (4 * x1) + x2)
  unfold sM
  rw [since_eq]
  rw [hkk] at hiso ⊢
  obtain ⟨h1, h2⟩ := h
  by_cases hO : bz (mt 30 (4 * x1.toNatClampNeg + x2.toNatClampNeg) 0) = 0
  · rw [if_pos hO]
    by_cases hS : f_MO_isSo mt ((4 * x1) + x2) = 0
    · rw [if_pos hS]
    · rw [if_neg hS, if_pos (Decidable.not_not.mp (fun z => h1 hO ⟨hiso.mp hS, z⟩))]
  · rw [if_neg hO]
    by_cases hS : f_MO_isSo mt ((4 * x1) + x2) = 0
    · rw [if_pos hS]
      rcases h2 hO with z | ⟨z1, z2⟩
      · exact absurd hS (hiso.mpr z)
      · rw [if_neg z1, if_pos z2]
    · rw [if_neg hS]
theorem settle_id {mt : XS} (hr : ∀ d, d < 8 → (mt 5 d 0).toInt ≤ (4 : Nat)) (hz : Rz mt) : f_MO_settle mt = mt := by
  have hz := Rz_iff.mp hz
  have hin : ∀ {x1 : Int32}, vp_in x1 8 → ∀ (m : Nat) (x2 : Int32), lpi 4 m x2 → g_MO_settle_10 m mt x1 x2 = mt := by
    intro x1 hx1 m
    induction m with
    | zero => intro x2 hx; exact absurd hx lpi_no
    | succ m ih =>
      intro x2 hx
      have d8 := xin_lt hx1
      by_cases hcc : mt 5 x1.toNatClampNeg 0 ≤ x2
      · rw [g_MO_settle_10, if_pos hcc]
      · by_cases hst : mt 2 x1.toNatClampNeg 0 = 2
        · have hlt := i32_nle hcc
          have h4 : x2.toInt < (4 : Nat) := by have := hr _ d8; omega
          have hx2 : vp_in x2 4 := vp_in_iff.mpr ⟨hx.1, h4⟩
          have hx2n := i32_nat hx.1
          rw [gM_step _ _ _ _ hcc hst, sM_id hx1 hx2 (hz _ d8 _ (xin_lt hx2) hst (by omega))]
          exact ih _ (lpi_nx hx h4 (by decide))
        · rw [g_MO_settle_10, if_neg hcc, if_neg hst]
  have hout : ∀ (m : Nat) (x1 : Int32), lpi 8 m x1 → g_MO_settle_2 m mt x1 = mt := by
    intro m
    induction m with
    | zero => intro x1 hx; exact absurd hx lpi_no
    | succ m ih =>
      intro x1 hx
      rw [g_MO_settle_2]
      by_cases hcc : 8 ≤ x1
      · rw [if_pos hcc]
      · have hlt := lpi_c hx hcc i32_8
        rw [if_neg hcc, hin (lpi_ix hx hlt (by decide)) 5 0 lpi_st]
        exact ih _ (lpi_nx hx hlt (by decide))
  exact hout 9 0 lpi_st
theorem RR.ch {n : Nat} {st mt : XS} (h : RR n st mt) : ∀ d, d < 8 → (mt 5 d 0).toInt ≤ (4 : Nat) := fun d hd => (h.2.2.1 d hd).2.2.2.2.2.1.2
