theorem vd_isDevice {x : Int32} (h : ¬ f_BN_isDevice x = 0) : vp_in x 8 := by
  unfold f_BN_isDevice at h
  split at h
  · exact absurd rfl h
  · rename_i h1
    split at h
    · exact absurd rfl h
    · rename_i h2
      have a1 := i32_nle h2
      have e8 : (8 : Int32).toInt = 8 := by decide
      rw [Int32.lt_iff_toInt_lt] at h1
      have e0 : (0 : Int32).toInt = 0 := by decide
      exact vp_in_iff.mpr ⟨by omega, by omega⟩
theorem vd_isBed {x : Int32} (h : ¬ f_BN_isBed x = 0) : vp_in x 4 := by
  unfold f_BN_isBed at h
  split at h
  · exact absurd rfl h
  · rename_i h1
    split at h
    · exact absurd rfl h
    · rename_i h2
      have a1 := i32_nle h2
      have e8 : (4 : Int32).toInt = 4 := by decide
      rw [Int32.lt_iff_toInt_lt] at h1
      have e0 : (0 : Int32).toInt = 0 := by decide
      exact vp_in_iff.mpr ⟨by omega, by omega⟩
theorem vd_hasChannel {st : XS} {d : Nat} {x : Int32} (h : ¬ f_DE_hasChannel st d x = 0) (hb : (st 8 5 d).toInt ≤ (4 : Nat)) : vp_in x 4 := by
  unfold f_DE_hasChannel at h
  split at h
  · exact absurd rfl h
  · rename_i h1
    split at h
    · exact absurd rfl h
    · rename_i h2
      have a1 := i32_nle h2
      rw [Int32.lt_iff_toInt_lt] at h1
      have e0 : (0 : Int32).toInt = 0 := by decide
      exact vp_in_iff.mpr ⟨by omega, by omega⟩
/-- how many channels a device has -/
def dok (st : XS) : Prop := ∀ d, d < 8 → (st 8 5 d).toInt ≤ (4 : Nat)
theorem dok_of {st st' : XS} (h : dok st) (e : ∀ d, st' 8 5 d = st 8 5 d) : dok st' := fun d hd => by rw [e d]; exact h d hd
theorem pok_xu {st : XS} {a k i : Nat} {v : Int32} (h : pok st) (h5 : a ≠ 5) (h6 : a ≠ 6) : pok (xu st a k i v) := pok_of h (xu_a (fun e => h5 e.symm)) (fun _ => xu_a (fun e => h6 e.symm))
theorem pok_x5 {st : XS} {k i : Nat} {v : Int32} (h : pok st) (h1 : k ≠ 1) : pok (xu st 5 k i v) := pok_of h (xu_f (fun e => h1 (Prod.mk.inj e).2.symm)) (fun _ => xu_a (by decide))
theorem p_PO_send {st : XS} {a1 a2 a3 a4 a5 a6 a7 : Int32} (h : pok st) : pok (f_PO_send st a1 a2 a3 a4 a5 a6 a7) := by
  unfold f_PO_send
  have e : ∀ {s' : XS}, pok s' → ¬ (64 : Int32) ≤ s' 5 1 0 → pok (xu s' 5 1 0 (s' 5 1 0 + 1)) := by
    intro s' hs hc
    have h1 := i32_nle hc
    have e64 : (64 : Int32).toInt = 64 := by decide
    have e1 := i32_inc hs.1 (by omega)
    refine ⟨?_, ?_, fun i hi => ?_⟩
    · rw [xu_s, e1]; have := hs.1; omega
    · rw [xu_s, e1]; omega
    · rw [xu_a (by decide)]; exact hs.2.2 i hi
  split
  · repeat (first | assumption | refine pok_xu ?_ (by decide) (by decide) | refine pok_x5 ?_ (by decide))
  · rename_i hc
    refine e ?_ hc
    repeat (first | assumption | refine pok_xu ?_ (by decide) (by decide) | refine pok_x5 ?_ (by decide))
