/-! counted loops: x runs up to N, with fuel n; or down to -1 -/
def lpi (N n : Nat) (x : Int32) : Prop := 0 ≤ x.toInt ∧ x.toInt ≤ N ∧ (N : Int) - x.toInt < n
theorem lpi_no {N : Nat} {x : Int32} (h : lpi N 0 x) : False := by
  obtain ⟨h1, h2, h3⟩ := h
  omega
theorem lpi_st {N : Nat} : lpi N (N + 1) 0 := ⟨by decide, by show (0 : Int) ≤ N; omega, by show (N : Int) - 0 < ((N + 1 : Nat) : Int); omega⟩
theorem i32_nle {x y : Int32} (h : ¬ x ≤ y) : y.toInt < x.toInt := by
  rw [Int32.le_iff_toInt_le] at h
  omega
theorem lpi_c {N n : Nat} {x c : Int32} (_ : lpi N n x) (h : ¬ c ≤ x) (hb : c.toInt ≤ N) : x.toInt < N := by
  have := i32_nle h
  omega
theorem lpi_l {N n : Nat} {x c : Int32} (_ : lpi N n x) (h : x < c) (hb : c.toInt ≤ N) : x.toInt < N := by
  rw [Int32.lt_iff_toInt_lt] at h
  omega
theorem lpi_ix {N M n : Nat} {x : Int32} (hx : lpi N n x) (h : x.toInt < N) (hm : N ≤ M) : vp_in x M := vp_in_iff.mpr ⟨hx.1, by omega⟩
theorem i32_inc {x : Int32} (h0 : 0 ≤ x.toInt) (h : x.toInt < 2147483647) : (x + 1).toInt = x.toInt + 1 := by
  have e : (1 : Int32).toInt = 1 := by decide
  rw [Int32.toInt_add, e]
  exact Int.bmod_eq_of_le (by omega) (by omega)
theorem lpi_nx {N n : Nat} {x : Int32} (hx : lpi N (n + 1) x) (h : x.toInt < N) (hN : N < 2147483647) : lpi N n (x + 1) := by
  obtain ⟨h1, h2, h3⟩ := hx
  have e := i32_inc h1 (by omega)
  refine ⟨by omega, by omega, ?_⟩
  rw [e]
  have : ((n + 1 : Nat) : Int) = (n : Int) + 1 := by omega
  omega
theorem i32_8 : (8 : Int32).toInt ≤ (8 : Nat) := by decide
/-! which places a function leaves alone -/
theorem xu_f {st : XS} {a k i : Nat} {v : Int32} {a' k' i' : Nat} (h : (a', k') ≠ (a, k)) : xu st a k i v a' k' i' = st a' k' i' := xu_n (fun e => h (by rw [e.1, e.2.1]))
theorem xu_a {st : XS} {a k i : Nat} {v : Int32} {a' k' i' : Nat} (h : a' ≠ a) : xu st a k i v a' k' i' = st a' k' i' := xu_n (fun e => h e.1)
section XQ
variable {p : Program} {l : Launch} {e : Env} {R : Room} {s : State} {m : MethodId} {args : Array Value} {below : List Frame} {meth : Method} {c : Code} {H : Heap} {locs : List Loc} {cells slots : Nat} {Q : State → Prop}
variable {cc : ByteArray} {pc : Nat} {ls : Array Slot} {rest : List Value} {own : String} {D : va_G} {cA : Nat → ClassId} {w : xD} {b : Nat} {st : XS} {H0 : Heap}
theorem xaast (hw : xinj w) (C : xCx p s m args c cc own D cA) (hP : xP w D cA b st H) (hS : va_S (xA w b) H0 H locs) {j a i t n : Nat} (ho : xo w j a i) (hs : w.2.2.2.1 a = .inr (t, n)) {E : String} (ht : (xTy cA)[t]? = some (cA t, .object E)) {x : Int32} (hin : vp_in x n) {v : Int32} {q qa qi ci : Nat} (hq : xo w q qa qi) (hqs : w.2.2.2.1 qa = .inl ci) {T : u_T} {N : Nat} {ty : Nat → FieldType} (hc : xcl ci E T N ty) (hv : w.2.2.1 b a i x.toNatClampNeg v = .ref (b + q)) (hdg : decode cc pc = .ok (.aastore, 1))
    (kk : ∀ (H1 : Heap) (locs1 : List Loc), xP w D cA b (xu st a x.toNatClampNeg i v) H1 → va_S (xA w b) H0 H1 locs1 → W p l e R s m args below meth c H1 locs1 cells slots Q (F0 m (pc + 1) ls rest)) : W p l e R s m args below meth c H locs cells slots Q (F0 m pc ls (.ref (b + q) :: .int x :: .ref (b + j) :: rest)) := by
  have h0 : ¬ x < 0 := fun z => hin (Or.inl z)
  obtain ⟨r, h1, cell, q1, q2, q3, q4⟩ := hP.obj hq hqs
  cases Option.some.inj (h1.symm.trans hc.1)
  obtain ⟨hSs, hcls⟩ := C.2.2.2.2.1.1 ci _ hc.1
  obtain ⟨kA, comp, k1, k2, k3, -⟩ := (C.2.2.2.2.1.2 t _ ht).2
  have hcomp : comp = D.1 ci := Option.some.inj (k3.symm.trans hcls.1)
  subst hcomp
  obtain ⟨kC, hkC, -⟩ := hcls.2
  exact W.aast C.1 C.2.1 (hP.arr ho hs) (fun z h => by cases h) (fun h => by cases h) k1 k2 rfl hkC ⟨h0, by rw [arrV_size]; exact xin_lt hin⟩ q1 (fun z h => by rw [q3] at h; cases h) (by rw [q2]; exact hkC) (by rw [q2]; exact va_assign hcls) rfl rfl hdg fun H1 e1 z oq => kk H1 _ (xastored hw hP ho hs hv e1 oq) (hS.put z oq ho.A)
end XQ
/-- the post: so many are pending, the slots hold messages -/
def pok (st : XS) : Prop := 0 ≤ (st 5 1 0).toInt ∧ (st 5 1 0).toInt ≤ (64 : Nat) ∧ ∀ i, i < 65 → (st 6 i 0).toNatClampNeg < 65
theorem pok_p {st : XS} (h : pok st) : vp_in (st 5 1 0) 65 := vp_in_iff.mpr ⟨h.1, by have := h.2.1; omega⟩
theorem pok_of {st st' : XS} (h : pok st) (h1 : st' 5 1 0 = st 5 1 0) (h2 : ∀ i, st' 6 i 0 = st 6 i 0) : pok st' := by
  unfold pok
  rw [h1]
  exact ⟨h.1, h.2.1, fun i hi => by rw [h2 i]; exact h.2.2 i hi⟩
theorem pok_s {st : XS} (h : pok st) {k : Nat} {v : Int32} (hv : v.toNatClampNeg < 65) : pok (xu st 6 k 0 v) := by
  refine ⟨?_, ?_, fun i hi => ?_⟩
  · rw [xu_a (by decide)]; exact h.1
  · rw [xu_a (by decide)]; exact h.2.1
  · by_cases e : i = k
    · subst e
      rw [xu_s]
      exact hv
    · rw [xu_n (by rintro ⟨-, z, -⟩; exact e z)]
      exact h.2.2 i hi
theorem i32_dec {x : Int32} (h : 1 ≤ x.toInt) : (x - 1).toInt = x.toInt - 1 := by
  have e : (1 : Int32).toInt = 1 := by decide
  have h2 := Int32.toInt_lt x
  rw [Int32.toInt_sub, e]
  exact Int.bmod_eq_of_le (by omega) (by omega)
/-- below what is pending, from 1 on -/
def lpr (n : Nat) (x : Int32) : Prop := lpi 64 n x ∧ 1 ≤ x.toInt
theorem lpr_no {x : Int32} (h : lpr 0 x) : False := lpi_no h.1
theorem lpr_nx {n : Nat} {x : Int32} (h : lpr (n + 1) x) (hl : x.toInt < (64 : Nat)) : lpr n (x + 1) := ⟨lpi_nx h.1 hl (by decide), by rw [i32_inc h.1.1 (by omega)]; have := h.1.1; omega⟩
theorem lpr_1 {n : Nat} {x : Int32} (h : lpr n x) : vp_in (x - 1) 65 := vp_in_iff.mpr (by
  rw [i32_dec h.2]
  have h1 := h.2
  have h2 := h.1.2.1
  constructor <;> omega)
theorem lpr_st {st : XS} (h : pok st) {x : Int32} (h0 : 0 ≤ x.toInt) (hx : x.toInt < (st 5 1 0).toInt) : lpr 65 (x + 1) := by
  have h2 := h.2.1
  have e := i32_inc h0 (by omega)
  refine ⟨⟨by omega, by omega, by omega⟩, by omega⟩
theorem pok_d {st : XS} (h : pok st) (h1 : 1 ≤ (st 5 1 0).toInt) : pok (xu st 5 1 0 (st 5 1 0 - 1)) := by
  refine ⟨?_, ?_, fun i hi => ?_⟩
  · rw [xu_s, i32_dec h1]; omega
  · rw [xu_s, i32_dec h1]; have := h.2.1; omega
  · rw [xu_a (by decide)]; exact h.2.2 i hi
theorem rm_in {st : XS} (hp : pok st) {x : Int32} (h0 : 0 ≤ x.toInt) (h1 : x.toInt < (st 5 1 0).toInt) : vp_in x 65 := vp_in_iff.mpr ⟨h0, by have := hp.2.1; omega⟩
theorem rm_last {st : XS} (hp : pok st) {x : Int32} (h0 : 0 ≤ x.toInt) (h1 : x.toInt < (st 5 1 0).toInt) : vp_in (st 5 1 0 - 1) 65 := by
  have h2 := hp.2.1
  have e := i32_dec (x := st 5 1 0) (by omega)
  exact vp_in_iff.mpr ⟨by omega, by omega⟩
theorem ite_fr {c : Prop} [Decidable c] {A B : XS × Int32} {a k i : Nat} {x : Int32} (hA : A.1 a k i = x) (hB : B.1 a k i = x) : (if c then A else B).1 a k i = x := by
  by_cases h : c
  · rw [if_pos h]; exact hA
  · rw [if_neg h]; exact hB
