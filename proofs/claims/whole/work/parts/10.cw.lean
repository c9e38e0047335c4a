/-! the class's world: 349 cells in the order in which they are made -/
def kwK (j : Nat) : Nat := if j ≤ 6 then j else if j ≤ 72 then 7 else if j < 233 then (if (j - 73) % 20 = 0 then 8 else if (j - 73) % 20 = 1 then 9 else if (j - 73) % 20 = 2 then 10 else if (j - 73) % 20 = 3 then 11 else if (j - 73) % 4 = 0 then 12 else if (j - 73) % 4 = 1 then 11 else if (j - 73) % 4 = 2 then 13 else 14) else if j < 249 then 15 else 16
def kwI (j : Nat) : Nat := if j ≤ 6 then 0 else if j ≤ 72 then j - 7 else if j < 233 then (if (j - 73) % 20 < 3 then (j - 73) / 20 else if (j - 73) % 20 = 3 then 200 + (j - 73) / 20 else j - 77 - (j - 77) % 4) else if j < 249 then j - 233 else j - 249
def kwO (a i : Nat) : Nat := if a ≤ 6 then a else if a = 7 then 7 + i else if a = 8 then 73 + 20 * i else if a = 9 then 74 + 20 * i else if a = 10 then 75 + 20 * i else if a = 11 then (if 200 ≤ i then 76 + 20 * (i - 200) else 78 + i) else if a = 12 then 77 + i else if a = 13 then 79 + i else if a = 14 then 80 + i else if a = 15 then 233 + i else 249 + i
theorem kwO_ok : ∀ j, j < 349 → kwO (kwK j) (kwI j) = j := by decide +kernel
def kwF (b a i k : Nat) (x : Int32) : Value := match a with
  | 0 => (match k with
    | 0 => .ref (b + 1)
    | 1 => .ref (b + 2)
    | 2 => .ref (b + 3)
    | 3 => .ref (b + 4)
    | 4 => .ref (b + 5)
    | 5 => .ref (b + 72)
    | _ => .int x)
  | 1 => .ref (b + (73 + 20 * k))
  | 2 => .int x
  | 3 => .ref (b + (233 + k))
  | 4 => .ref (b + (249 + k))
  | 5 => (match k with
    | 0 => .ref (b + 6)
    | _ => .int x)
  | 6 => .ref (b + (7 + x.toNatClampNeg))
  | 7 => .int x
  | 8 => (match k with
    | 0 => .ref (b + (74 + 20 * i))
    | 1 => .ref (b + (75 + 20 * i))
    | _ => .int x)
  | 9 => .ref (b + (77 + (20 * i + 4 * k)))
  | 10 => (match k with
    | 0 => .ref (b + (76 + 20 * i))
    | 1 => .int (bz x)
    | 3 => .int (bz x)
    | _ => .int x)
  | 11 => .int x
  | 12 => (match k with
    | 0 => .ref (b + (78 + i))
    | 1 => .ref (b + (79 + i))
    | 2 => .ref (b + (80 + i))
    | 4 => .int (bz x)
    | 7 => .int (bz x)
    | _ => .int x)
  | 13 => (match k with
    | 0 => .int (bz x)
    | 4 => .int (bz x)
    | 7 => .int (bz x)
    | 8 => .int (bz x)
    | _ => .int x)
  | 14 => (match k with
    | 1 => .int (bz x)
    | 2 => .int (bz x)
    | _ => .int x)
  | _ => .int x
def kwS (a : Nat) : Nat ⊕ (Nat × Nat) := match a with
  | 0 => .inl 10
  | 1 => .inr (3, 8)
  | 2 => .inr (0, 4)
  | 3 => .inr (4, 16)
  | 4 => .inr (5, 100)
  | 5 => .inl 7
  | 6 => .inr (6, 65)
  | 7 => .inl 5
  | 8 => .inl 2
  | 9 => .inr (7, 4)
  | 10 => .inl 9
  | 11 => .inl 8
  | 12 => .inl 1
  | 13 => .inl 0
  | 14 => .inl 4
  | 15 => .inl 3
  | _ => .inl 6
abbrev cw : xD := (kwK, kwI, kwF, kwS, 349)
theorem cw_inj : xinj cw := by
  intro j j' h h' h1 h2
  have e1 := kwO_ok j h
  have e2 := kwO_ok j' h'
  have h1' : kwK j = kwK j' := h1
  have h2' : kwI j = kwI j' := h2
  rw [h1', h2'] at e1
  exact e1.symm.trans e2
theorem o_BN : xo cw 0 0 0 := ⟨by decide, rfl, rfl⟩
theorem o_da : xo cw 1 1 0 := ⟨by decide, rfl, rfl⟩
theorem o_pa : xo cw 2 2 0 := ⟨by decide, rfl, rfl⟩
theorem o_ya : xo cw 3 3 0 := ⟨by decide, rfl, rfl⟩
theorem o_oa : xo cw 4 4 0 := ⟨by decide, rfl, rfl⟩
theorem o_PO : xo cw 5 5 0 := ⟨by decide, rfl, rfl⟩
theorem o_sa : xo cw 6 6 0 := ⟨by decide, rfl, rfl⟩
theorem o_IH : xo cw 72 7 65 := ⟨by decide, rfl, rfl⟩
theorem o_ME {k : Nat} (h : k < 65) : xo cw (7 + k) 7 k := ⟨by show 7 + k < 349; omega, by show kwK _ = _; unfold kwK; (repeat' split); all_goals omega, by show kwI _ = _; unfold kwI; (repeat' split); all_goals omega⟩
theorem o_DE {d : Nat} (h : d < 8) : xo cw (73 + 20 * d) 8 d := ⟨by show _ < 349; omega, by show kwK _ = _; unfold kwK; (repeat' split); all_goals omega, by show kwI _ = _; unfold kwI; (repeat' split); all_goals omega⟩
theorem o_ca {d : Nat} (h : d < 8) : xo cw (74 + 20 * d) 9 d := ⟨by show _ < 349; omega, by show kwK _ = _; unfold kwK; (repeat' split); all_goals omega, by show kwI _ = _; unfold kwI; (repeat' split); all_goals omega⟩
theorem o_SE {d : Nat} (h : d < 8) : xo cw (75 + 20 * d) 10 d := ⟨by show _ < 349; omega, by show kwK _ = _; unfold kwK; (repeat' split); all_goals omega, by show kwI _ = _; unfold kwI; (repeat' split); all_goals omega⟩
theorem o_RS {d : Nat} (h : d < 8) : xo cw (76 + 20 * d) 11 (200 + d) := ⟨by show _ < 349; omega, by show kwK _ = _; unfold kwK; (repeat' split); all_goals omega, by show kwI _ = _; unfold kwI; (repeat' split); all_goals omega⟩
/-- the number of a channel: 20 d + 4 c -/
def cix (i : Nat) : Prop := i < 160 ∧ i % 4 = 0 ∧ i % 20 < 16
theorem cix_of {d c : Nat} (h : d < 8) (h' : c < 4) : cix (20 * d + 4 * c) := ⟨by omega, by omega, by omega⟩
theorem o_CH {i : Nat} (h : cix i) : xo cw (77 + i) 12 i := by
  obtain ⟨h1, h2, h3⟩ := h
  exact ⟨by show _ < 349; omega, by show kwK _ = _; unfold kwK; (repeat' split); all_goals omega, by show kwI _ = _; unfold kwI; (repeat' split); all_goals omega⟩
theorem o_RC {i : Nat} (h : cix i) : xo cw (78 + i) 11 i := by
  obtain ⟨h1, h2, h3⟩ := h
  exact ⟨by show _ < 349; omega, by show kwK _ = _; unfold kwK; (repeat' split); all_goals omega, by show kwI _ = _; unfold kwI; (repeat' split); all_goals omega⟩
theorem o_AL {i : Nat} (h : cix i) : xo cw (79 + i) 13 i := by
  obtain ⟨h1, h2, h3⟩ := h
  exact ⟨by show _ < 349; omega, by show kwK _ = _; unfold kwK; (repeat' split); all_goals omega, by show kwI _ = _; unfold kwI; (repeat' split); all_goals omega⟩
theorem o_KN {i : Nat} (h : cix i) : xo cw (80 + i) 14 i := by
  obtain ⟨h1, h2, h3⟩ := h
  exact ⟨by show _ < 349; omega, by show kwK _ = _; unfold kwK; (repeat' split); all_goals omega, by show kwI _ = _; unfold kwI; (repeat' split); all_goals omega⟩
theorem o_DI {i : Nat} (h : i < 16) : xo cw (233 + i) 15 i := ⟨by show _ < 349; omega, by show kwK _ = _; unfold kwK; (repeat' split); all_goals omega, by show kwI _ = _; unfold kwI; (repeat' split); all_goals omega⟩
theorem o_OR {i : Nat} (h : i < 100) : xo cw (249 + i) 16 i := ⟨by show _ < 349; omega, by show kwK _ = _; unfold kwK; (repeat' split); all_goals omega, by show kwI _ = _; unfold kwI; (repeat' split); all_goals omega⟩
theorem c_AL : xcl 0 R_AL F_AL 10 t_AL := ⟨rfl, by decide +kernel, ft_AL, n_AL⟩
theorem c_CH : xcl 1 R_CH F_CH 9 t_CH := ⟨rfl, by decide +kernel, ft_CH, n_CH⟩
theorem c_DE : xcl 2 R_DE F_DE 9 t_DE := ⟨rfl, by decide +kernel, ft_DE, n_DE⟩
theorem c_DI : xcl 3 R_DI F_DI 8 t_DI := ⟨rfl, by decide +kernel, ft_DI, n_DI⟩
theorem c_KN : xcl 4 R_KN F_KN 3 t_KN := ⟨rfl, by decide +kernel, ft_KN, n_KN⟩
theorem c_ME : xcl 5 R_ME F_ME 8 t_ME := ⟨rfl, by decide +kernel, ft_ME, n_ME⟩
theorem c_OR : xcl 6 R_OR F_OR 5 t_OR := ⟨rfl, by decide +kernel, ft_OR, n_OR⟩
theorem c_PO : xcl 7 R_PO F_PO 4 t_PO := ⟨rfl, by decide +kernel, ft_PO, n_PO⟩
theorem c_RA : xcl 8 R_RA F_RA 3 t_RA := ⟨rfl, by decide +kernel, ft_RA, n_RA⟩
theorem c_SE : xcl 9 R_SE F_SE 6 t_SE := ⟨rfl, by decide +kernel, ft_SE, n_SE⟩
theorem c_BN : xcl 10 R_BN F_BN 9 t_BN := ⟨rfl, by decide +kernel, ft_BN, n_BN⟩
theorem c_MO : xcl 11 R_MO F_MO 62 t_MO := ⟨rfl, by decide +kernel, ft_MO, n_MO⟩
theorem ne0_lt1 {x : Int32} (h : ¬ x < 1) : ¬ x = 0 := fun e => h (by rw [e]; decide)
