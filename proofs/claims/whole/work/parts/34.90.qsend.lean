theorem p_MO_send {st : XS} {a1 a2 a3 a4 a5 : Int32} (h : qok st) : qok (f_MO_send st a1 a2 a3 a4 a5) := by
  unfold f_MO_send
  have e : ∀ {s' : XS}, qok s' → ¬ (64 : Int32) ≤ s' 0 39 0 → qok (xu s' 0 39 0 (s' 0 39 0 + 1)) := by
    intro s' hs hc
    have h1 := i32_nle hc
    have e64 : (64 : Int32).toInt = 64 := by decide
    have e1 := i32_inc hs.1 (by omega)
    refine ⟨?_, ?_⟩
    · rw [xu_s, e1]; have := hs.1; omega
    · rw [xu_s, e1]; omega
  split
  · refine qok_xu (qok_xu h (by decide)) (by decide)
  · rename_i hc
    refine qok_xu ?_ (by decide)
    refine qok_of (e h hc) ?_
    rw [xu_s, xu_s]
