theorem xat_ob {w : xD} {D : va_G} {cA : Nat → ClassId} {b : Nat} {st : XS} {H : Heap} {j a i ci A N : Nat} {Cn : String} {T : u_T} {ty : Nat → FieldType} {V : Nat → Value} (ho : xo w j a i) (hs : w.2.2.2.1 a = .inl ci) (hc : xcl ci Cn T N ty) (h : xob D ci A V H) (hA : A = b + j) (hV : ∀ k, k < N → V k = w.2.2.1 b a i k (st a k i)) : xat w D cA b st j H := by
  obtain ⟨h1, rfl, rfl⟩ := ho
  subst hA
  unfold xat
  rw [hs]
  obtain ⟨r, q1, q2⟩ := h
  have hr : r = (Cn, T, N) := Option.some.inj (q1.symm.trans hc.1)
  subst hr
  exact ⟨_, q1, q2.to hV⟩
theorem xat_ar {w : xD} {D : va_G} {cA : Nat → ClassId} {b : Nat} {st : XS} {H : Heap} {j a i t n A : Nat} {f : Nat → Value} (ho : xo w j a i) (hs : w.2.2.2.1 a = .inr (t, n)) (h : xar cA t n A f H) (hA : A = b + j) (hV : ∀ k, k < n → f k = w.2.2.1 b a i k (st a k i)) : xat w D cA b st j H := by
  obtain ⟨h1, rfl, rfl⟩ := ho
  subst hA
  unfold xat
  rw [hs]
  unfold xar at h
  rw [arrV_cg hV] at h
  exact h
/-- the class's state behind the constructor -/
def st0 : XS := fun a k _ => match a with
  | 6 => nI k
  | 8 => if k = 3 then -1 else if k = 4 then 1 else if k = 7 then -1000000 else if k = 8 then -1000000 else 0
  | 10 => if k = 4 then -1 else if k = 5 then -1000000 else 0
  | 11 => if k = 2 then 1 else 0
  | 12 => if k = 8 then -1000000 else 0
  | 14 => if k = 0 then -1 else 0
  | 15 => if k = 4 then -1 else if k = 7 then -1000000 else 0
  | 16 => if k = 3 then -1 else 0
  | _ => 0
theorem zb0 : Value.int 0 = Value.int (bz 0) := by rw [bz_0]
theorem rf_eq {x y : Nat} (h : x = y) : Value.ref x = Value.ref y := congrArg Value.ref h
section WLD
variable {D : va_G} {cA : Nat → ClassId} {b : Nat} {H : Heap}
theorem at_RA {j i A : Nat} (ho : xo cw j 11 i) (h : xob D 8 A vRA H) (hA : A = b + j) : xat cw D cA b st0 j H := xat_ob ho rfl c_RA h hA (fun k hk => by
  match k, hk with
  | 0, _ => rfl
  | 1, _ => rfl
  | 2, _ => rfl)
theorem at_AL {j i A : Nat} (ho : xo cw j 13 i) (h : xob D 0 A v0i H) (hA : A = b + j) : xat cw D cA b st0 j H := xat_ob ho rfl c_AL h hA (fun k hk => by
  match k, hk with
  | 0, _ => exact zb0
  | 1, _ => rfl
  | 2, _ => rfl
  | 3, _ => rfl
  | 4, _ => exact zb0
  | 5, _ => rfl
  | 6, _ => rfl
  | 7, _ => exact zb0
  | 8, _ => exact zb0
  | 9, _ => rfl)
theorem at_KN {j i A : Nat} (ho : xo cw j 14 i) (h : xob D 4 A vKN H) (hA : A = b + j) : xat cw D cA b st0 j H := xat_ob ho rfl c_KN h hA (fun k hk => by
  match k, hk with
  | 0, _ => rfl
  | 1, _ => exact zb0
  | 2, _ => exact zb0)
theorem at_ME {j i A : Nat} (ho : xo cw j 7 i) (h : xob D 5 A v0i H) (hA : A = b + j) : xat cw D cA b st0 j H := xat_ob ho rfl c_ME h hA (fun _ _ => rfl)
theorem at_DI {j i A : Nat} (ho : xo cw j 15 i) (h : xob D 3 A vDI H) (hA : A = b + j) : xat cw D cA b st0 j H := xat_ob ho rfl c_DI h hA (fun k hk => by
  match k, hk with
  | 0, _ => rfl
  | 1, _ => rfl
  | 2, _ => rfl
  | 3, _ => rfl
  | 4, _ => rfl
  | 5, _ => rfl
  | 6, _ => rfl
  | 7, _ => rfl)
theorem at_OR {j i A : Nat} (ho : xo cw j 16 i) (h : xob D 6 A vOR H) (hA : A = b + j) : xat cw D cA b st0 j H := xat_ob ho rfl c_OR h hA (fun k hk => by
  match k, hk with
  | 0, _ => rfl
  | 1, _ => rfl
  | 2, _ => rfl
  | 3, _ => rfl
  | 4, _ => rfl)
theorem at_SE {j i A r : Nat} (ho : xo cw j 10 i) (h : xob D 9 A (vSE r) H) (hA : A = b + j) (hr : r = b + (76 + 20 * i)) : xat cw D cA b st0 j H := xat_ob ho rfl c_SE h hA (fun k hk => by
  match k, hk with
  | 0, _ => exact rf_eq hr
  | 1, _ => exact zb0
  | 2, _ => rfl
  | 3, _ => exact zb0
  | 4, _ => rfl
  | 5, _ => rfl)
theorem at_CH {j i A r : Nat} (ho : xo cw j 12 i) (h : xob D 1 A (vCH r) H) (hA : A = b + j) (hr : r = b + (78 + i)) : xat cw D cA b st0 j H := xat_ob ho rfl c_CH h hA (fun k hk => by
  match k, hk with
  | 0, _ => exact rf_eq hr
  | 1, _ => exact rf_eq (show r + 1 = b + (79 + i) by omega)
  | 2, _ => exact rf_eq (show r + 2 = b + (80 + i) by omega)
  | 3, _ => rfl
  | 4, _ => exact zb0
  | 5, _ => rfl
  | 6, _ => rfl
  | 7, _ => exact zb0
  | 8, _ => rfl)
theorem at_DE {j i A z : Nat} (ho : xo cw j 8 i) (h : xob D 2 A (vDE z) H) (hA : A = b + j) (hr : z = b + (74 + 20 * i)) : xat cw D cA b st0 j H := xat_ob ho rfl c_DE h hA (fun k hk => by
  match k, hk with
  | 0, _ => exact rf_eq hr
  | 1, _ => exact rf_eq (show z + 1 = b + (75 + 20 * i) by omega)
  | 2, _ => rfl
  | 3, _ => rfl
  | 4, _ => rfl
  | 5, _ => rfl
  | 6, _ => rfl
  | 7, _ => rfl
  | 8, _ => rfl)
theorem at_PO {j i A : Nat} (ho : xo cw j 5 i) (h : xob D 7 A (vPO (b + 6)) H) (hA : A = b + j) : xat cw D cA b st0 j H := xat_ob ho rfl c_PO h hA (fun k hk => by
  match k, hk with
  | 0, _ => rfl
  | 1, _ => rfl
  | 2, _ => rfl
  | 3, _ => rfl)
theorem at_BN {j i A z : Nat} (ho : xo cw j 0 i) (h : xob D 10 A (vBN z) H) (hA : A = b + j) (hr : z = b + 1) : xat cw D cA b st0 j H := xat_ob ho rfl c_BN h hA (fun k hk => by
  match k, hk with
  | 0, _ => exact rf_eq hr
  | 1, _ => exact rf_eq (show z + 1 = b + 2 by omega)
  | 2, _ => exact rf_eq (show z + 2 = b + 3 by omega)
  | 3, _ => exact rf_eq (show z + 3 = b + 4 by omega)
  | 4, _ => exact rf_eq (show z + 4 = b + 5 by omega)
  | 5, _ => exact rf_eq (show z + 71 = b + 72 by omega)
  | 6, _ => rfl
  | 7, _ => rfl
  | 8, _ => rfl)
theorem bBN_xP (h : bBN D cA b (b + 1) H) : xP cw D cA b st0 H := by
  obtain ⟨g0, g1, g2, g3, g4, g5, g6, g7, g8, g9, g10, g11⟩ := h
  intro j hj
  have hj : j < 349 := hj
  by_cases c1 : j < 7
  · match j, c1 with
    | 0, _ => exact at_BN o_BN g0 rfl rfl
    | 1, _ => exact xat_ar o_da rfl g1 rfl (fun k hk => rf_eq (show b + 1 + 72 + 20 * k = b + (73 + 20 * k) by omega))
    | 2, _ => exact xat_ar o_pa rfl g2 (show b + 1 + 1 = b + 2 by omega) (fun _ _ => rfl)
    | 3, _ => exact xat_ar o_ya rfl g3 (show b + 1 + 2 = b + 3 by omega) (fun k hk => rf_eq (show b + 1 + 232 + k = b + (233 + k) by omega))
    | 4, _ => exact xat_ar o_oa rfl g4 (show b + 1 + 3 = b + 4 by omega) (fun k hk => rf_eq (show b + 1 + 248 + k = b + (249 + k) by omega))
    | 5, _ => exact at_PO o_PO (by rw [show b + 6 = b + 1 + 5 by omega]; exact g5) (show b + 1 + 4 = b + 5 by omega)
    | 6, _ => exact xat_ar o_sa rfl g6 (show b + 1 + 5 = b + 6 by omega) (fun k hk => rf_eq (show b + 1 + 5 + 1 + k = b + (7 + (nI k).toNatClampNeg) by rw [nI_clamp (by omega)]; omega))
  · by_cases c2 : j < 72
    · obtain ⟨k, rfl⟩ : ∃ k, j = 7 + k := ⟨j - 7, by omega⟩
      exact at_ME (o_ME (by omega)) (g7 k (by omega)) (by omega)
    · by_cases c3 : j = 72
      · subst c3
        exact at_ME o_IH g8 (show b + 1 + 71 = b + 72 by omega)
      · by_cases c4 : j < 233
        · obtain ⟨d, r, hd, hr, rfl⟩ : ∃ d r, d < 8 ∧ r < 20 ∧ j = 73 + 20 * d + r := ⟨(j - 73) / 20, (j - 73) % 20, by omega, by omega, by omega⟩
          obtain ⟨q0, q1, q2, q3, q4⟩ := g9 d hd
          by_cases r0 : r = 0
          · subst r0
            exact at_DE (o_DE hd) q0 (by omega) (by omega)
          · by_cases r1 : r = 1
            · subst r1
              rw [show 73 + 20 * d + 1 = 74 + 20 * d by omega]
              exact xat_ar (o_ca hd) rfl q1 (by omega) (fun k hk => rf_eq (show b + 1 + 72 + 20 * d + 1 + 3 + 4 * k = b + (77 + (20 * d + 4 * k)) by omega))
            · by_cases r2 : r = 2
              · subst r2
                rw [show 73 + 20 * d + 2 = 75 + 20 * d by omega]
                exact at_SE (o_SE hd) q2 (by omega) (by omega)
              · by_cases r3 : r = 3
                · subst r3
                  rw [show 73 + 20 * d + 3 = 76 + 20 * d by omega]
                  exact at_RA (o_RS hd) q3 (by omega)
                · obtain ⟨c, t, hc, ht, rfl⟩ : ∃ c t, c < 4 ∧ t < 4 ∧ r = 4 + 4 * c + t := ⟨(r - 4) / 4, (r - 4) % 4, by omega, by omega, by omega⟩
                  obtain ⟨u0, u1, u2, u3⟩ := q4 c hc
                  have hx := cix_of hd hc
                  match t, ht with
                  | 0, _ => rw [show 73 + 20 * d + (4 + 4 * c + 0) = 77 + (20 * d + 4 * c) by omega]; exact at_CH (o_CH hx) u0 (by omega) (by omega)
                  | 1, _ => rw [show 73 + 20 * d + (4 + 4 * c + 1) = 78 + (20 * d + 4 * c) by omega]; exact at_RA (o_RC hx) u1 (by omega)
                  | 2, _ => rw [show 73 + 20 * d + (4 + 4 * c + 2) = 79 + (20 * d + 4 * c) by omega]; exact at_AL (o_AL hx) u2 (by omega)
                  | 3, _ => rw [show 73 + 20 * d + (4 + 4 * c + 3) = 80 + (20 * d + 4 * c) by omega]; exact at_KN (o_KN hx) u3 (by omega)
        · by_cases c5 : j < 249
          · obtain ⟨k, rfl⟩ : ∃ k, j = 233 + k := ⟨j - 233, by omega⟩
            exact at_DI (o_DI (by omega)) (g10 k (by omega)) (by omega)
          · obtain ⟨k, rfl⟩ : ∃ k, j = 249 + k := ⟨j - 249, by omega⟩
            exact at_OR (o_OR (by omega)) (g11 k (by omega)) (by omega)
end WLD
