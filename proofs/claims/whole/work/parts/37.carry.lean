def f_MO_carry (st : XS) (a1 : Int32) (a2 : Int32) : XS × Int32 :=
  if 0 ≤ (f_MO_find (xu st 0 0 0 0) a1) then (if a2 = 0 then (if (st 40 ((f_MO_find (xu st 0 0 0 0) a1)).toNatClampNeg 0) = (st 4 ((st 38 ((f_MO_find (xu st 0 0 0 0) a1)).toNatClampNeg 0)).toNatClampNeg 0) then (if (st 37 ((f_MO_find (xu st 0 0 0 0) a1)).toNatClampNeg 0) = 1 then ((f_MO_settle (f_MO_shows (f_MO_take (xu st 0 0 0 0) (f_MO_find (xu st 0 0 0 0) a1)) a1 ((4 * (st 38 ((f_MO_find (xu st 0 0 0 0) a1)).toNatClampNeg 0)) + (st 39 ((f_MO_find (xu st 0 0 0 0) a1)).toNatClampNeg 0)) (st 40 ((f_MO_find (xu st 0 0 0 0) a1)).toNatClampNeg 0) (st 41 ((f_MO_find (xu st 0 0 0 0) a1)).toNatClampNeg 0) (st 42 ((f_MO_find (xu st 0 0 0 0) a1)).toNatClampNeg 0) (st 43 ((f_MO_find (xu st 0 0 0 0) a1)).toNatClampNeg 0))), 1)
        else if (st 37 ((f_MO_find (xu st 0 0 0 0) a1)).toNatClampNeg 0) = 2 then ((f_MO_settle (f_MO_knows (f_MO_take (xu st 0 0 0 0) (f_MO_find (xu st 0 0 0 0) a1)) a1 (st 38 ((f_MO_find (xu st 0 0 0 0) a1)).toNatClampNeg 0) ((4 * (st 38 ((f_MO_find (xu st 0 0 0 0) a1)).toNatClampNeg 0)) + (st 39 ((f_MO_find (xu st 0 0 0 0) a1)).toNatClampNeg 0)) (st 41 ((f_MO_find (xu st 0 0 0 0) a1)).toNatClampNeg 0))), 1)
        else if (st 37 ((f_MO_find (xu st 0 0 0 0) a1)).toNatClampNeg 0) = 3 then ((f_MO_settle (xu (f_MO_take (xu st 0 0 0 0) (f_MO_find (xu st 0 0 0 0) a1)) 15 ((st 38 ((f_MO_find (xu st 0 0 0 0) a1)).toNatClampNeg 0)).toNatClampNeg 0 (st 0 1 0))), 1)
        else if (st 37 ((f_MO_find (xu st 0 0 0 0) a1)).toNatClampNeg 0) = 4 then (if (bz (st 31 (((4 * (st 38 ((f_MO_find (xu st 0 0 0 0) a1)).toNatClampNeg 0)) + (st 39 ((f_MO_find (xu st 0 0 0 0) a1)).toNatClampNeg 0))).toNatClampNeg 0)) = 0 then (if (bz (st 30 (((4 * (st 38 ((f_MO_find (xu st 0 0 0 0) a1)).toNatClampNeg 0)) + (st 39 ((f_MO_find (xu st 0 0 0 0) a1)).toNatClampNeg 0))).toNatClampNeg 0)) = 0 then ((f_MO_settle (xu (f_MO_take (xu st 0 0 0 0) (f_MO_find (xu st 0 0 0 0) a1)) 31 (((4 * (st 38 ((f_MO_find (xu st 0 0 0 0) a1)).toNatClampNeg 0)) + (st 39 ((f_MO_find (xu st 0 0 0 0) a1)).toNatClampNeg 0))).toNatClampNeg 0 0)), 1)
            else ((f_MO_settle (xu (f_MO_take (xu st 0 0 0 0) (f_MO_find (xu st 0 0 0 0) a1)) 31 (((4 * (st 38 ((f_MO_find (xu st 0 0 0 0) a1)).toNatClampNeg 0)) + (st 39 ((f_MO_find (xu st 0 0 0 0) a1)).toNatClampNeg 0))).toNatClampNeg 0 1)), 1))
          else ((f_MO_settle (xu (f_MO_take (xu st 0 0 0 0) (f_MO_find (xu st 0 0 0 0) a1)) 31 (((4 * (st 38 ((f_MO_find (xu st 0 0 0 0) a1)).toNatClampNeg 0)) + (st 39 ((f_MO_find (xu st 0 0 0 0) a1)).toNatClampNeg 0))).toNatClampNeg 0 1)), 1))
        else if (st 37 ((f_MO_find (xu st 0 0 0 0) a1)).toNatClampNeg 0) = 5 then ((f_MO_settle (f_MO_orders (f_MO_take (xu st 0 0 0 0) (f_MO_find (xu st 0 0 0 0) a1)) (st 38 ((f_MO_find (xu st 0 0 0 0) a1)).toNatClampNeg 0) (st 39 ((f_MO_find (xu st 0 0 0 0) a1)).toNatClampNeg 0) (st 40 ((f_MO_find (xu st 0 0 0 0) a1)).toNatClampNeg 0))), 1)
        else ((f_MO_settle (xu (f_MO_take (xu st 0 0 0 0) (f_MO_find (xu st 0 0 0 0) a1)) 55 ((st 39 ((f_MO_find (xu st 0 0 0 0) a1)).toNatClampNeg 0)).toNatClampNeg 0 (1 + (st 41 ((f_MO_find (xu st 0 0 0 0) a1)).toNatClampNeg 0)))), 1))
      else if (st 37 ((f_MO_find (xu st 0 0 0 0) a1)).toNatClampNeg 0) = 1 then ((f_MO_settle (f_MO_take (xu st 0 0 0 0) (f_MO_find (xu st 0 0 0 0) a1))), 1)
      else if (st 37 ((f_MO_find (xu st 0 0 0 0) a1)).toNatClampNeg 0) = 2 then ((f_MO_settle (f_MO_take (xu st 0 0 0 0) (f_MO_find (xu st 0 0 0 0) a1))), 1)
      else if (st 37 ((f_MO_find (xu st 0 0 0 0) a1)).toNatClampNeg 0) = 3 then ((f_MO_settle (xu (f_MO_take (xu st 0 0 0 0) (f_MO_find (xu st 0 0 0 0) a1)) 15 ((st 38 ((f_MO_find (xu st 0 0 0 0) a1)).toNatClampNeg 0)).toNatClampNeg 0 (st 15 ((st 38 ((f_MO_find (xu st 0 0 0 0) a1)).toNatClampNeg 0)).toNatClampNeg 0))), 1)
      else if (st 37 ((f_MO_find (xu st 0 0 0 0) a1)).toNatClampNeg 0) = 4 then (if (bz (st 31 (((4 * (st 38 ((f_MO_find (xu st 0 0 0 0) a1)).toNatClampNeg 0)) + (st 39 ((f_MO_find (xu st 0 0 0 0) a1)).toNatClampNeg 0))).toNatClampNeg 0)) = 0 then ((f_MO_settle (xu (f_MO_take (xu st 0 0 0 0) (f_MO_find (xu st 0 0 0 0) a1)) 31 (((4 * (st 38 ((f_MO_find (xu st 0 0 0 0) a1)).toNatClampNeg 0)) + (st 39 ((f_MO_find (xu st 0 0 0 0) a1)).toNatClampNeg 0))).toNatClampNeg 0 0)), 1)
        else ((f_MO_settle (xu (f_MO_take (xu st 0 0 0 0) (f_MO_find (xu st 0 0 0 0) a1)) 31 (((4 * (st 38 ((f_MO_find (xu st 0 0 0 0) a1)).toNatClampNeg 0)) + (st 39 ((f_MO_find (xu st 0 0 0 0) a1)).toNatClampNeg 0))).toNatClampNeg 0 1)), 1))
      else if (st 37 ((f_MO_find (xu st 0 0 0 0) a1)).toNatClampNeg 0) = 5 then ((f_MO_settle (f_MO_orders (f_MO_take (xu st 0 0 0 0) (f_MO_find (xu st 0 0 0 0) a1)) (st 38 ((f_MO_find (xu st 0 0 0 0) a1)).toNatClampNeg 0) (st 39 ((f_MO_find (xu st 0 0 0 0) a1)).toNatClampNeg 0) (st 40 ((f_MO_find (xu st 0 0 0 0) a1)).toNatClampNeg 0))), 1)
      else ((f_MO_settle (xu (f_MO_take (xu st 0 0 0 0) (f_MO_find (xu st 0 0 0 0) a1)) 55 ((st 39 ((f_MO_find (xu st 0 0 0 0) a1)).toNatClampNeg 0)).toNatClampNeg 0 (1 + (st 41 ((f_MO_find (xu st 0 0 0 0) a1)).toNatClampNeg 0)))), 1))
    else if (st 40 ((f_MO_find (xu st 0 0 0 0) a1)).toNatClampNeg 0) = (st 4 ((st 38 ((f_MO_find (xu st 0 0 0 0) a1)).toNatClampNeg 0)).toNatClampNeg 0) then (if (st 37 ((f_MO_find (xu st 0 0 0 0) a1)).toNatClampNeg 0) = 1 then ((f_MO_settle (f_MO_shows (xu st 0 0 0 0) a1 ((4 * (st 38 ((f_MO_find (xu st 0 0 0 0) a1)).toNatClampNeg 0)) + (st 39 ((f_MO_find (xu st 0 0 0 0) a1)).toNatClampNeg 0)) (st 40 ((f_MO_find (xu st 0 0 0 0) a1)).toNatClampNeg 0) (st 41 ((f_MO_find (xu st 0 0 0 0) a1)).toNatClampNeg 0) (st 42 ((f_MO_find (xu st 0 0 0 0) a1)).toNatClampNeg 0) (st 43 ((f_MO_find (xu st 0 0 0 0) a1)).toNatClampNeg 0))), 1)
      else if (st 37 ((f_MO_find (xu st 0 0 0 0) a1)).toNatClampNeg 0) = 2 then ((f_MO_settle (f_MO_knows (xu st 0 0 0 0) a1 (st 38 ((f_MO_find (xu st 0 0 0 0) a1)).toNatClampNeg 0) ((4 * (st 38 ((f_MO_find (xu st 0 0 0 0) a1)).toNatClampNeg 0)) + (st 39 ((f_MO_find (xu st 0 0 0 0) a1)).toNatClampNeg 0)) (st 41 ((f_MO_find (xu st 0 0 0 0) a1)).toNatClampNeg 0))), 1)
      else if (st 37 ((f_MO_find (xu st 0 0 0 0) a1)).toNatClampNeg 0) = 3 then ((f_MO_settle (xu (xu st 0 0 0 0) 15 ((st 38 ((f_MO_find (xu st 0 0 0 0) a1)).toNatClampNeg 0)).toNatClampNeg 0 (st 0 1 0))), 1)
      else if (st 37 ((f_MO_find (xu st 0 0 0 0) a1)).toNatClampNeg 0) = 4 then (if (bz (st 31 (((4 * (st 38 ((f_MO_find (xu st 0 0 0 0) a1)).toNatClampNeg 0)) + (st 39 ((f_MO_find (xu st 0 0 0 0) a1)).toNatClampNeg 0))).toNatClampNeg 0)) = 0 then (if (bz (st 30 (((4 * (st 38 ((f_MO_find (xu st 0 0 0 0) a1)).toNatClampNeg 0)) + (st 39 ((f_MO_find (xu st 0 0 0 0) a1)).toNatClampNeg 0))).toNatClampNeg 0)) = 0 then ((f_MO_settle (xu (xu st 0 0 0 0) 31 (((4 * (st 38 ((f_MO_find (xu st 0 0 0 0) a1)).toNatClampNeg 0)) + (st 39 ((f_MO_find (xu st 0 0 0 0) a1)).toNatClampNeg 0))).toNatClampNeg 0 0)), 1)
          else ((f_MO_settle (xu (xu st 0 0 0 0) 31 (((4 * (st 38 ((f_MO_find (xu st 0 0 0 0) a1)).toNatClampNeg 0)) + (st 39 ((f_MO_find (xu st 0 0 0 0) a1)).toNatClampNeg 0))).toNatClampNeg 0 1)), 1))
        else ((f_MO_settle (xu (xu st 0 0 0 0) 31 (((4 * (st 38 ((f_MO_find (xu st 0 0 0 0) a1)).toNatClampNeg 0)) + (st 39 ((f_MO_find (xu st 0 0 0 0) a1)).toNatClampNeg 0))).toNatClampNeg 0 1)), 1))
      else if (st 37 ((f_MO_find (xu st 0 0 0 0) a1)).toNatClampNeg 0) = 5 then ((f_MO_settle (f_MO_orders (xu st 0 0 0 0) (st 38 ((f_MO_find (xu st 0 0 0 0) a1)).toNatClampNeg 0) (st 39 ((f_MO_find (xu st 0 0 0 0) a1)).toNatClampNeg 0) (st 40 ((f_MO_find (xu st 0 0 0 0) a1)).toNatClampNeg 0))), 1)
      else ((f_MO_settle (xu (xu st 0 0 0 0) 55 ((st 39 ((f_MO_find (xu st 0 0 0 0) a1)).toNatClampNeg 0)).toNatClampNeg 0 (1 + (st 41 ((f_MO_find (xu st 0 0 0 0) a1)).toNatClampNeg 0)))), 1))
    else if (st 37 ((f_MO_find (xu st 0 0 0 0) a1)).toNatClampNeg 0) = 1 then ((f_MO_settle (xu st 0 0 0 0)), 1)
    else if (st 37 ((f_MO_find (xu st 0 0 0 0) a1)).toNatClampNeg 0) = 2 then ((f_MO_settle (xu st 0 0 0 0)), 1)
    else if (st 37 ((f_MO_find (xu st 0 0 0 0) a1)).toNatClampNeg 0) = 3 then ((f_MO_settle (xu (xu st 0 0 0 0) 15 ((st 38 ((f_MO_find (xu st 0 0 0 0) a1)).toNatClampNeg 0)).toNatClampNeg 0 (st 15 ((st 38 ((f_MO_find (xu st 0 0 0 0) a1)).toNatClampNeg 0)).toNatClampNeg 0))), 1)
    else if (st 37 ((f_MO_find (xu st 0 0 0 0) a1)).toNatClampNeg 0) = 4 then (if (bz (st 31 (((4 * (st 38 ((f_MO_find (xu st 0 0 0 0) a1)).toNatClampNeg 0)) + (st 39 ((f_MO_find (xu st 0 0 0 0) a1)).toNatClampNeg 0))).toNatClampNeg 0)) = 0 then ((f_MO_settle (xu (xu st 0 0 0 0) 31 (((4 * (st 38 ((f_MO_find (xu st 0 0 0 0) a1)).toNatClampNeg 0)) + (st 39 ((f_MO_find (xu st 0 0 0 0) a1)).toNatClampNeg 0))).toNatClampNeg 0 0)), 1)
      else ((f_MO_settle (xu (xu st 0 0 0 0) 31 (((4 * (st 38 ((f_MO_find (xu st 0 0 0 0) a1)).toNatClampNeg 0)) + (st 39 ((f_MO_find (xu st 0 0 0 0) a1)).toNatClampNeg 0))).toNatClampNeg 0 1)), 1))
    else if (st 37 ((f_MO_find (xu st 0 0 0 0) a1)).toNatClampNeg 0) = 5 then ((f_MO_settle (f_MO_orders (xu st 0 0 0 0) (st 38 ((f_MO_find (xu st 0 0 0 0) a1)).toNatClampNeg 0) (st 39 ((f_MO_find (xu st 0 0 0 0) a1)).toNatClampNeg 0) (st 40 ((f_MO_find (xu st 0 0 0 0) a1)).toNatClampNeg 0))), 1)
    else ((f_MO_settle (xu (xu st 0 0 0 0) 55 ((st 39 ((f_MO_find (xu st 0 0 0 0) a1)).toNatClampNeg 0)).toNatClampNeg 0 (1 + (st 41 ((f_MO_find (xu st 0 0 0 0) a1)).toNatClampNeg 0)))), 1))
  else ((xu st 0 0 0 0), 0)
set_option maxRecDepth 100000 in
set_option maxHeartbeats 4000000 in
theorem z_MO_carry {st : XS} {a1 : Int32} {a2 : Int32} : bz (f_MO_carry st a1 a2).2 = (f_MO_carry st a1 a2).2 := by
  unfold f_MO_carry
  repeat' (with_reducible refine ite_zz ?_ ?_)
  all_goals first | with_reducible exact bz_0 | with_reducible exact bz_1 | with_reducible exact bz_bz _
set_option maxRecDepth 100000 in
set_option maxHeartbeats 4000000 in
theorem fr_MO_carry {st : XS} {a1 : Int32} {a2 : Int32} {a' k' i' : Nat} (h : (a', k') ∉ ([(0, 0), (0, 2), (0, 3), (0, 39)] : List (Nat × Nat))) (h2 : a' ∉ ([12, 15, 30, 31, 32, 33, 34, 35, 36, 37, 38, 39, 40, 41, 42, 43, 47, 48, 49, 50, 54, 55] : List Nat)) : (f_MO_carry st a1 a2).1 a' k' i' = st a' k' i' := by
  unfold f_MO_carry
  repeat' (with_reducible refine ite_fr ?_ ?_)
  all_goals (try dsimp only)
  all_goals (repeat (first | with_reducible rfl | rw [xu_f (fun e => h (by rw [e]; decide))] | rw [xu_a (fun e => h2 (by rw [e]; decide))] | rw [fr_MO_knows (fun q => h ((by decide : ∀ z ∈ ([(0, 2), (0, 3), (0, 39)] : List (Nat × Nat)), z ∈ ([(0, 0), (0, 2), (0, 3), (0, 39)] : List (Nat × Nat))) _ q)) (fun q => h2 ((by decide : ∀ z ∈ ([33, 34, 35, 36, 37, 38, 39, 40, 41, 42, 43] : List Nat), z ∈ ([12, 15, 30, 31, 32, 33, 34, 35, 36, 37, 38, 39, 40, 41, 42, 43, 47, 48, 49, 50, 54, 55] : List Nat)) _ q))] | rw [fr_MO_orders (fun q => h ((by decide : ∀ z ∈ ([(0, 2), (0, 3), (0, 39)] : List (Nat × Nat)), z ∈ ([(0, 0), (0, 2), (0, 3), (0, 39)] : List (Nat × Nat))) _ q)) (fun q => h2 ((by decide : ∀ z ∈ ([12, 36, 37, 38, 39, 40, 41, 42, 43, 54] : List Nat), z ∈ ([12, 15, 30, 31, 32, 33, 34, 35, 36, 37, 38, 39, 40, 41, 42, 43, 47, 48, 49, 50, 54, 55] : List Nat)) _ q))] | rw [fr_MO_settle (fun q => h ((by decide : ∀ z ∈ ([(0, 2), (0, 3), (0, 39)] : List (Nat × Nat)), z ∈ ([(0, 0), (0, 2), (0, 3), (0, 39)] : List (Nat × Nat))) _ q)) (fun q => h2 ((by decide : ∀ z ∈ ([30, 31, 32, 36, 37, 38, 39, 40, 41, 42, 43] : List Nat), z ∈ ([12, 15, 30, 31, 32, 33, 34, 35, 36, 37, 38, 39, 40, 41, 42, 43, 47, 48, 49, 50, 54, 55] : List Nat)) _ q))] | rw [fr_MO_shows (fun q => h ((by decide : ∀ z ∈ ([] : List (Nat × Nat)), z ∈ ([(0, 0), (0, 2), (0, 3), (0, 39)] : List (Nat × Nat))) _ q)) (fun q => h2 ((by decide : ∀ z ∈ ([47, 48, 49, 50] : List Nat), z ∈ ([12, 15, 30, 31, 32, 33, 34, 35, 36, 37, 38, 39, 40, 41, 42, 43, 47, 48, 49, 50, 54, 55] : List Nat)) _ q))] | rw [fr_MO_take (fun q => h ((by decide : ∀ z ∈ ([(0, 39)] : List (Nat × Nat)), z ∈ ([(0, 0), (0, 2), (0, 3), (0, 39)] : List (Nat × Nat))) _ q)) (fun q => h2 ((by decide : ∀ z ∈ ([36, 37, 38, 39, 40, 41, 42, 43] : List Nat), z ∈ ([12, 15, 30, 31, 32, 33, 34, 35, 36, 37, 38, 39, 40, 41, 42, 43, 47, 48, 49, 50, 54, 55] : List Nat)) _ q))]))
set_option maxRecDepth 100000 in
set_option maxHeartbeats 4000000 in
theorem k_MO_carry (l : Launch) (D : va_G) (cA : Nat → ClassId) (b : Nat) (st : XS) (a1 : Int32) (a2 : Int32) (hq : qok st) (hc : cok st) (hh : (st 0 48 0).toInt ≤ (16 : Nat)) (hm : nall st) : xMi mw D cA b l y_MO_carry (Cond.code y_MO_carry b_MO_carry 12 (some .boolean)) { frames := 3, cells := 0, slots := 0, locals := 70 } st [.ref (b + 0), .int a1, .int a2] (f_MO_carry st a1 a2).2 (f_MO_carry st a1 a2).1 := by
  refine xMi_of rfl (by decide) (Nat.le_of_ble_eq_true rfl) ?_
  intro p e s m below meth c ls C hlk hr hml hl hP hS
  have hl : lv_has ls 12 [(0, .ref (b + 0)), (1, .int a1), (2, .int a2)] := hl
  refine lv_aload_n C.1 C.2.1 d_MO_carry_0 rfl (lv_at hl 0 rfl) ?_
  refine lv_iconst (v := 0) C.1 C.2.1 d_MO_carry_1 (by decide) ?_
  refine xput mw_inj C hP hS o_MO rfl c_MO (k := 0) (x := 0) (by decide) wg_877 rfl rfl rfl rfl d_MO_carry_2 (fun H locs hP hS => ?_)
  refine lv_aload_n C.1 C.2.1 d_MO_carry_5 rfl (lv_at hl 0 rfl) ?_
  refine lv_iload_n C.1 C.2.1 d_MO_carry_6 rfl (lv_at hl 1 rfl) ?_
  refine xcVi (rest := []) C hml hl.1 (k_MO_find l D cA b (xu st 0 0 0 0) a1 (qok_xu hq (by decide))) q_MO_find rfl rfl wg_1175 wg_1177 ws_64 ⟨Nat.le_of_ble_eq_true rfl, Nat.le_of_ble_eq_true rfl⟩ hP hS o_MO rfl c_MO rfl (Nat.le_of_ble_eq_true rfl) d_MO_carry_7 rfl (fun H locs hP hS => ?_)
  refine lv_istore_n C.1 C.2.1 d_MO_carry_10 rfl hl (by decide) rfl (fun ls hl => ?_)
  have hl : lv_has ls 12 [(3, .int (f_MO_find (xu st 0 0 0 0) a1)), (0, .ref (b + 0)), (1, .int a1), (2, .int a2)] := hl
  refine lv_iload_n C.1 C.2.1 d_MO_carry_11 rfl (lv_at hl 0 rfl) ?_
  refine lv_if_ge (tgt := 17) C.1 C.2.1 d_MO_carry_12 (by decide) (fun h1 => ?_) (fun h1 => ?_)
  · refine lv_aload_n C.1 C.2.1 d_MO_carry_17 rfl (lv_at hl 1 rfl) ?_
    refine xget C hP o_MO rfl c_MO (k := 41) (v := .ref (b + 37)) (by decide) wg_918 rfl d_MO_carry_18 ?_
    refine lv_iload_n C.1 C.2.1 d_MO_carry_21 rfl (lv_at hl 0 rfl) ?_
    refine xiald C hP om_37 rfl (v := (st 37 ((f_MO_find (xu st 0 0 0 0) a1)).toNatClampNeg 0)) (fi_in (qok_xu hq (by decide)) h1) (congrArg Value.int (xu_a (by decide))) d_MO_carry_22 ?_
    refine lv_istore C.1 C.2.1 d_MO_carry_23 hl (by decide) rfl (fun ls hl => ?_)
    have hl : lv_has ls 12 [(4, .int (st 37 ((f_MO_find (xu st 0 0 0 0) a1)).toNatClampNeg 0)), (3, .int (f_MO_find (xu st 0 0 0 0) a1)), (0, .ref (b + 0)), (1, .int a1), (2, .int a2)] := hl
    refine lv_aload_n C.1 C.2.1 d_MO_carry_25 rfl (lv_at hl 2 rfl) ?_
    refine xget C hP o_MO rfl c_MO (k := 42) (v := .ref (b + 38)) (by decide) wg_919 rfl d_MO_carry_26 ?_
    refine lv_iload_n C.1 C.2.1 d_MO_carry_29 rfl (lv_at hl 1 rfl) ?_
    refine xiald C hP om_38 rfl (v := (st 38 ((f_MO_find (xu st 0 0 0 0) a1)).toNatClampNeg 0)) (fi_in (qok_xu hq (by decide)) h1) (congrArg Value.int (xu_a (by decide))) d_MO_carry_30 ?_
    refine lv_istore C.1 C.2.1 d_MO_carry_31 hl (by decide) rfl (fun ls hl => ?_)
    have hl : lv_has ls 12 [(5, .int (st 38 ((f_MO_find (xu st 0 0 0 0) a1)).toNatClampNeg 0)), (4, .int (st 37 ((f_MO_find (xu st 0 0 0 0) a1)).toNatClampNeg 0)), (3, .int (f_MO_find (xu st 0 0 0 0) a1)), (0, .ref (b + 0)), (1, .int a1), (2, .int a2)] := hl
    refine lv_aload_n C.1 C.2.1 d_MO_carry_33 rfl (lv_at hl 3 rfl) ?_
    refine xget C hP o_MO rfl c_MO (k := 43) (v := .ref (b + 39)) (by decide) wg_920 rfl d_MO_carry_34 ?_
    refine lv_iload_n C.1 C.2.1 d_MO_carry_37 rfl (lv_at hl 2 rfl) ?_
    refine xiald C hP om_39 rfl (v := (st 39 ((f_MO_find (xu st 0 0 0 0) a1)).toNatClampNeg 0)) (fi_in (qok_xu hq (by decide)) h1) (congrArg Value.int (xu_a (by decide))) d_MO_carry_38 ?_
    refine lv_istore C.1 C.2.1 d_MO_carry_39 hl (by decide) rfl (fun ls hl => ?_)
    have hl : lv_has ls 12 [(6, .int (st 39 ((f_MO_find (xu st 0 0 0 0) a1)).toNatClampNeg 0)), (5, .int (st 38 ((f_MO_find (xu st 0 0 0 0) a1)).toNatClampNeg 0)), (4, .int (st 37 ((f_MO_find (xu st 0 0 0 0) a1)).toNatClampNeg 0)), (3, .int (f_MO_find (xu st 0 0 0 0) a1)), (0, .ref (b + 0)), (1, .int a1), (2, .int a2)] := hl
    refine lv_aload_n C.1 C.2.1 d_MO_carry_41 rfl (lv_at hl 4 rfl) ?_
    refine xget C hP o_MO rfl c_MO (k := 44) (v := .ref (b + 40)) (by decide) wg_921 rfl d_MO_carry_42 ?_
    refine lv_iload_n C.1 C.2.1 d_MO_carry_45 rfl (lv_at hl 3 rfl) ?_
    refine xiald C hP om_40 rfl (v := (st 40 ((f_MO_find (xu st 0 0 0 0) a1)).toNatClampNeg 0)) (fi_in (qok_xu hq (by decide)) h1) (congrArg Value.int (xu_a (by decide))) d_MO_carry_46 ?_
    refine lv_istore C.1 C.2.1 d_MO_carry_47 hl (by decide) rfl (fun ls hl => ?_)
    have hl : lv_has ls 12 [(7, .int (st 40 ((f_MO_find (xu st 0 0 0 0) a1)).toNatClampNeg 0)), (6, .int (st 39 ((f_MO_find (xu st 0 0 0 0) a1)).toNatClampNeg 0)), (5, .int (st 38 ((f_MO_find (xu st 0 0 0 0) a1)).toNatClampNeg 0)), (4, .int (st 37 ((f_MO_find (xu st 0 0 0 0) a1)).toNatClampNeg 0)), (3, .int (f_MO_find (xu st 0 0 0 0) a1)), (0, .ref (b + 0)), (1, .int a1), (2, .int a2)] := hl
    refine lv_aload_n C.1 C.2.1 d_MO_carry_49 rfl (lv_at hl 5 rfl) ?_
    refine xget C hP o_MO rfl c_MO (k := 45) (v := .ref (b + 41)) (by decide) wg_922 rfl d_MO_carry_50 ?_
    refine lv_iload_n C.1 C.2.1 d_MO_carry_53 rfl (lv_at hl 4 rfl) ?_
    refine xiald C hP om_41 rfl (v := (st 41 ((f_MO_find (xu st 0 0 0 0) a1)).toNatClampNeg 0)) (fi_in (qok_xu hq (by decide)) h1) (congrArg Value.int (xu_a (by decide))) d_MO_carry_54 ?_
    refine lv_istore C.1 C.2.1 d_MO_carry_55 hl (by decide) rfl (fun ls hl => ?_)
    have hl : lv_has ls 12 [(8, .int (st 41 ((f_MO_find (xu st 0 0 0 0) a1)).toNatClampNeg 0)), (7, .int (st 40 ((f_MO_find (xu st 0 0 0 0) a1)).toNatClampNeg 0)), (6, .int (st 39 ((f_MO_find (xu st 0 0 0 0) a1)).toNatClampNeg 0)), (5, .int (st 38 ((f_MO_find (xu st 0 0 0 0) a1)).toNatClampNeg 0)), (4, .int (st 37 ((f_MO_find (xu st 0 0 0 0) a1)).toNatClampNeg 0)), (3, .int (f_MO_find (xu st 0 0 0 0) a1)), (0, .ref (b + 0)), (1, .int a1), (2, .int a2)] := hl
    refine lv_aload_n C.1 C.2.1 d_MO_carry_57 rfl (lv_at hl 6 rfl) ?_
    refine xget C hP o_MO rfl c_MO (k := 46) (v := .ref (b + 42)) (by decide) wg_923 rfl d_MO_carry_58 ?_
    refine lv_iload_n C.1 C.2.1 d_MO_carry_61 rfl (lv_at hl 5 rfl) ?_
    refine xiald C hP om_42 rfl (v := (st 42 ((f_MO_find (xu st 0 0 0 0) a1)).toNatClampNeg 0)) (fi_in (qok_xu hq (by decide)) h1) (congrArg Value.int (xu_a (by decide))) d_MO_carry_62 ?_
    refine lv_istore C.1 C.2.1 d_MO_carry_63 hl (by decide) rfl (fun ls hl => ?_)
    have hl : lv_has ls 12 [(9, .int (st 42 ((f_MO_find (xu st 0 0 0 0) a1)).toNatClampNeg 0)), (8, .int (st 41 ((f_MO_find (xu st 0 0 0 0) a1)).toNatClampNeg 0)), (7, .int (st 40 ((f_MO_find (xu st 0 0 0 0) a1)).toNatClampNeg 0)), (6, .int (st 39 ((f_MO_find (xu st 0 0 0 0) a1)).toNatClampNeg 0)), (5, .int (st 38 ((f_MO_find (xu st 0 0 0 0) a1)).toNatClampNeg 0)), (4, .int (st 37 ((f_MO_find (xu st 0 0 0 0) a1)).toNatClampNeg 0)), (3, .int (f_MO_find (xu st 0 0 0 0) a1)), (0, .ref (b + 0)), (1, .int a1), (2, .int a2)] := hl
    refine lv_aload_n C.1 C.2.1 d_MO_carry_65 rfl (lv_at hl 7 rfl) ?_
    refine xget C hP o_MO rfl c_MO (k := 47) (v := .ref (b + 43)) (by decide) wg_924 rfl d_MO_carry_66 ?_
    refine lv_iload_n C.1 C.2.1 d_MO_carry_69 rfl (lv_at hl 6 rfl) ?_
    refine xiald C hP om_43 rfl (v := (st 43 ((f_MO_find (xu st 0 0 0 0) a1)).toNatClampNeg 0)) (fi_in (qok_xu hq (by decide)) h1) (congrArg Value.int (xu_a (by decide))) d_MO_carry_70 ?_
    refine lv_istore C.1 C.2.1 d_MO_carry_71 hl (by decide) rfl (fun ls hl => ?_)
    have hl : lv_has ls 12 [(10, .int (st 43 ((f_MO_find (xu st 0 0 0 0) a1)).toNatClampNeg 0)), (9, .int (st 42 ((f_MO_find (xu st 0 0 0 0) a1)).toNatClampNeg 0)), (8, .int (st 41 ((f_MO_find (xu st 0 0 0 0) a1)).toNatClampNeg 0)), (7, .int (st 40 ((f_MO_find (xu st 0 0 0 0) a1)).toNatClampNeg 0)), (6, .int (st 39 ((f_MO_find (xu st 0 0 0 0) a1)).toNatClampNeg 0)), (5, .int (st 38 ((f_MO_find (xu st 0 0 0 0) a1)).toNatClampNeg 0)), (4, .int (st 37 ((f_MO_find (xu st 0 0 0 0) a1)).toNatClampNeg 0)), (3, .int (f_MO_find (xu st 0 0 0 0) a1)), (0, .ref (b + 0)), (1, .int a1), (2, .int a2)] := hl
    refine lv_iload_n C.1 C.2.1 d_MO_carry_73 rfl (lv_at hl 10 rfl) ?_
    refine lv_if_ne (tgt := 82) C.1 C.2.1 d_MO_carry_74 (by decide) (fun h2 => ?_) (fun h2 => ?_)
    · refine lv_iload C.1 C.2.1 d_MO_carry_82 (lv_at hl 3 rfl) ?_
      refine lv_aload_n C.1 C.2.1 d_MO_carry_84 rfl (lv_at hl 8 rfl) ?_
      refine xget C hP o_MO rfl c_MO (k := 7) (v := .ref (b + 4)) (by decide) wg_884 rfl d_MO_carry_85 ?_
      refine lv_iload C.1 C.2.1 d_MO_carry_88 (lv_at hl 5 rfl) ?_
      refine xiald C hP om_4 rfl (v := (st 4 ((st 38 ((f_MO_find (xu st 0 0 0 0) a1)).toNatClampNeg 0)).toNatClampNeg 0)) (nok_ix hm ⟨(fi_lt (qok_xu hq (by decide)) h1).1, by have z := (fi_lt (qok_xu hq (by decide)) h1).2; rw [xu_f (by decide)] at z; exact z⟩).1 (congrArg Value.int (xu_a (by decide))) d_MO_carry_90 ?_
      refine lv_icmp_ne (tgt := 98) C.1 C.2.1 d_MO_carry_91 (by decide) (fun h3 => ?_) (fun h3 => ?_)
      · refine lv_iconst (v := 0) C.1 C.2.1 d_MO_carry_98 (by decide) ?_
        refine lv_istore C.1 C.2.1 d_MO_carry_99 hl (by decide) rfl (fun ls hl => ?_)
        have hl : lv_has ls 12 [(11, .int 0), (10, .int (st 43 ((f_MO_find (xu st 0 0 0 0) a1)).toNatClampNeg 0)), (9, .int (st 42 ((f_MO_find (xu st 0 0 0 0) a1)).toNatClampNeg 0)), (8, .int (st 41 ((f_MO_find (xu st 0 0 0 0) a1)).toNatClampNeg 0)), (7, .int (st 40 ((f_MO_find (xu st 0 0 0 0) a1)).toNatClampNeg 0)), (6, .int (st 39 ((f_MO_find (xu st 0 0 0 0) a1)).toNatClampNeg 0)), (5, .int (st 38 ((f_MO_find (xu st 0 0 0 0) a1)).toNatClampNeg 0)), (4, .int (st 37 ((f_MO_find (xu st 0 0 0 0) a1)).toNatClampNeg 0)), (3, .int (f_MO_find (xu st 0 0 0 0) a1)), (0, .ref (b + 0)), (1, .int a1), (2, .int a2)] := hl
        refine lv_iload C.1 C.2.1 d_MO_carry_101 (lv_at hl 7 rfl) ?_
        by_cases h4 : (st 37 ((f_MO_find (xu st 0 0 0 0) a1)).toNatClampNeg 0) = 1
        · refine lv_tableIn (tgt := 136) (off := 33) C.1 C.2.1 d_MO_carry_103 (by rw [h4]; decide) (by rw [h4]; decide) (by rw [h4]; rfl) (by decide) ?_
          refine lv_iload C.1 C.2.1 d_MO_carry_136 (lv_at hl 0 rfl) ?_
          refine lv_if_eq (tgt := 296) C.1 C.2.1 d_MO_carry_138 (by decide) (fun _ => ?_) (fun h => absurd (by decide) h)
          refine lv_aload_n C.1 C.2.1 d_MO_carry_296 rfl (lv_at hl 9 rfl) ?_
          refine xcVv (rest := []) C hml hl.1 (k_MO_settle l D cA b (xu st 0 0 0 0) (qok_xu hq (by decide)) (cok_of hc (fun _ => xu_a (by decide)))) q_MO_settle rfl rfl wg_1119 wg_1121 ws_56 ⟨Nat.le_of_ble_eq_true rfl, Nat.le_of_ble_eq_true rfl⟩ hP hS o_MO rfl c_MO rfl (Nat.le_of_ble_eq_true rfl) d_MO_carry_297 rfl (fun H locs hP hS => ?_)
          refine lv_iconst (v := 1) C.1 C.2.1 d_MO_carry_300 (by decide) ?_
          exact xrz C hlk hr bz_1 hP hS d_MO_carry_301 ⟨by rw [f_MO_carry, if_pos h1, if_neg h2, if_neg h3, if_pos h4], by rw [f_MO_carry, if_pos h1, if_neg h2, if_neg h3, if_pos h4]⟩
        by_cases h5 : (st 37 ((f_MO_find (xu st 0 0 0 0) a1)).toNatClampNeg 0) = 2
        · refine lv_tableIn (tgt := 164) (off := 61) C.1 C.2.1 d_MO_carry_103 (by rw [h5]; decide) (by rw [h5]; decide) (by rw [h5]; rfl) (by decide) ?_
          refine lv_iload C.1 C.2.1 d_MO_carry_164 (lv_at hl 0 rfl) ?_
          refine lv_if_eq (tgt := 296) C.1 C.2.1 d_MO_carry_166 (by decide) (fun _ => ?_) (fun h => absurd (by decide) h)
          refine lv_aload_n C.1 C.2.1 d_MO_carry_296 rfl (lv_at hl 9 rfl) ?_
          refine xcVv (rest := []) C hml hl.1 (k_MO_settle l D cA b (xu st 0 0 0 0) (qok_xu hq (by decide)) (cok_of hc (fun _ => xu_a (by decide)))) q_MO_settle rfl rfl wg_1119 wg_1121 ws_56 ⟨Nat.le_of_ble_eq_true rfl, Nat.le_of_ble_eq_true rfl⟩ hP hS o_MO rfl c_MO rfl (Nat.le_of_ble_eq_true rfl) d_MO_carry_297 rfl (fun H locs hP hS => ?_)
          refine lv_iconst (v := 1) C.1 C.2.1 d_MO_carry_300 (by decide) ?_
          exact xrz C hlk hr bz_1 hP hS d_MO_carry_301 ⟨by rw [f_MO_carry, if_pos h1, if_neg h2, if_neg h3, if_neg h4, if_pos h5], by rw [f_MO_carry, if_pos h1, if_neg h2, if_neg h3, if_neg h4, if_pos h5]⟩
        by_cases h6 : (st 37 ((f_MO_find (xu st 0 0 0 0) a1)).toNatClampNeg 0) = 3
        · refine lv_tableIn (tgt := 188) (off := 85) C.1 C.2.1 d_MO_carry_103 (by rw [h6]; decide) (by rw [h6]; decide) (by rw [h6]; rfl) (by decide) ?_
          refine lv_aload_n C.1 C.2.1 d_MO_carry_188 rfl (lv_at hl 9 rfl) ?_
          refine xget C hP o_MO rfl c_MO (k := 18) (v := .ref (b + 15)) (by decide) wg_895 rfl d_MO_carry_189 ?_
          refine lv_iload C.1 C.2.1 d_MO_carry_192 (lv_at hl 6 rfl) ?_
          refine lv_iload C.1 C.2.1 d_MO_carry_194 (lv_at hl 0 rfl) ?_
          refine lv_if_eq (tgt := 206) C.1 C.2.1 d_MO_carry_196 (by decide) (fun _ => ?_) (fun h => absurd (by decide) h)
          refine lv_aload_n C.1 C.2.1 d_MO_carry_206 rfl (lv_at hl 9 rfl) ?_
          refine xget C hP o_MO rfl c_MO (k := 18) (v := .ref (b + 15)) (by decide) wg_895 rfl d_MO_carry_207 ?_
          refine lv_iload C.1 C.2.1 d_MO_carry_210 (lv_at hl 6 rfl) ?_
          refine xiald C hP om_15 rfl (v := (st 15 ((st 38 ((f_MO_find (xu st 0 0 0 0) a1)).toNatClampNeg 0)).toNatClampNeg 0)) (nok_ix hm ⟨(fi_lt (qok_xu hq (by decide)) h1).1, by have z := (fi_lt (qok_xu hq (by decide)) h1).2; rw [xu_f (by decide)] at z; exact z⟩).1 (congrArg Value.int (xu_a (by decide))) d_MO_carry_212 ?_
          refine xiast mw_inj C hP hS om_15 rfl (nok_ix hm ⟨(fi_lt (qok_xu hq (by decide)) h1).1, by have z := (fi_lt (qok_xu hq (by decide)) h1).2; rw [xu_f (by decide)] at z; exact z⟩).1 rfl d_MO_carry_213 (fun H locs hP hS => ?_)
          refine lv_goto (tgt := 296) C.1 C.2.1 d_MO_carry_214 (by decide) ?_
          refine lv_aload_n C.1 C.2.1 d_MO_carry_296 rfl (lv_at hl 9 rfl) ?_
          refine xcVv (rest := []) C hml hl.1 (k_MO_settle l D cA b (xu (xu st 0 0 0 0) 15 ((st 38 ((f_MO_find (xu st 0 0 0 0) a1)).toNatClampNeg 0)).toNatClampNeg 0 (st 15 ((st 38 ((f_MO_find (xu st 0 0 0 0) a1)).toNatClampNeg 0)).toNatClampNeg 0)) (qok_xa (qok_xu hq (by decide)) (by decide)) (cok_of (cok_of hc (fun _ => xu_a (by decide))) (fun _ => xu_a (by decide)))) q_MO_settle rfl rfl wg_1119 wg_1121 ws_56 ⟨Nat.le_of_ble_eq_true rfl, Nat.le_of_ble_eq_true rfl⟩ hP hS o_MO rfl c_MO rfl (Nat.le_of_ble_eq_true rfl) d_MO_carry_297 rfl (fun H locs hP hS => ?_)
          refine lv_iconst (v := 1) C.1 C.2.1 d_MO_carry_300 (by decide) ?_
          exact xrz C hlk hr bz_1 hP hS d_MO_carry_301 ⟨by rw [f_MO_carry, if_pos h1, if_neg h2, if_neg h3, if_neg h4, if_neg h5, if_pos h6], by rw [f_MO_carry, if_pos h1, if_neg h2, if_neg h3, if_neg h4, if_neg h5, if_pos h6]⟩
        by_cases h7 : (st 37 ((f_MO_find (xu st 0 0 0 0) a1)).toNatClampNeg 0) = 4
        · refine lv_tableIn (tgt := 217) (off := 114) C.1 C.2.1 d_MO_carry_103 (by rw [h7]; decide) (by rw [h7]; decide) (by rw [h7]; rfl) (by decide) ?_
          refine lv_aload_n C.1 C.2.1 d_MO_carry_217 rfl (lv_at hl 9 rfl) ?_
          refine xget C hP o_MO rfl c_MO (k := 34) (v := .ref (b + 31)) (by decide) wg_911 rfl d_MO_carry_218 ?_
          refine lv_iconst (v := 4) C.1 C.2.1 d_MO_carry_221 (by decide) ?_
          refine lv_iload C.1 C.2.1 d_MO_carry_222 (lv_at hl 6 rfl) ?_
          refine lv_imul C.1 C.2.1 d_MO_carry_224 ?_
          refine lv_iload C.1 C.2.1 d_MO_carry_225 (lv_at hl 5 rfl) ?_
          refine lv_iadd C.1 C.2.1 d_MO_carry_227 ?_
          refine lv_aload_n C.1 C.2.1 d_MO_carry_228 rfl (lv_at hl 9 rfl) ?_
          refine xget C hP o_MO rfl c_MO (k := 34) (v := .ref (b + 31)) (by decide) wg_911 rfl d_MO_carry_229 ?_
          refine lv_iconst (v := 4) C.1 C.2.1 d_MO_carry_232 (by decide) ?_
          refine lv_iload C.1 C.2.1 d_MO_carry_233 (lv_at hl 6 rfl) ?_
          refine lv_imul C.1 C.2.1 d_MO_carry_235 ?_
          refine lv_iload C.1 C.2.1 d_MO_carry_236 (lv_at hl 5 rfl) ?_
          refine lv_iadd C.1 C.2.1 d_MO_carry_238 ?_
          refine xzald C hP om_31 rfl (v := (bz (st 31 (((4 * (st 38 ((f_MO_find (xu st 0 0 0 0) a1)).toNatClampNeg 0)) + (st 39 ((f_MO_find (xu st 0 0 0 0) a1)).toNatClampNeg 0))).toNatClampNeg 0))) (ix4 (nok_ix hm ⟨(fi_lt (qok_xu hq (by decide)) h1).1, by have z := (fi_lt (qok_xu hq (by decide)) h1).2; rw [xu_f (by decide)] at z; exact z⟩).1 ((nok_ix hm ⟨(fi_lt (qok_xu hq (by decide)) h1).1, by have z := (fi_lt (qok_xu hq (by decide)) h1).2; rw [xu_f (by decide)] at z; exact z⟩).2.1 (Or.inr (Or.inr h7)))) (congrArg (fun z => Value.int (bz z)) (xu_a (by decide))) d_MO_carry_239 ?_
          refine lv_if_ne (tgt := 263) C.1 C.2.1 d_MO_carry_240 (by decide) (fun h8 => ?_) (fun h8 => ?_)
          · refine lv_iconst (v := 1) C.1 C.2.1 d_MO_carry_263 (by decide) ?_
            refine lv_goto (tgt := 268) C.1 C.2.1 d_MO_carry_264 (by decide) ?_
            refine xzast mw_inj C hP hS om_31 rfl (ix4 (nok_ix hm ⟨(fi_lt (qok_xu hq (by decide)) h1).1, by have z := (fi_lt (qok_xu hq (by decide)) h1).2; rw [xu_f (by decide)] at z; exact z⟩).1 ((nok_ix hm ⟨(fi_lt (qok_xu hq (by decide)) h1).1, by have z := (fi_lt (qok_xu hq (by decide)) h1).2; rw [xu_f (by decide)] at z; exact z⟩).2.1 (Or.inr (Or.inr h7)))) rfl d_MO_carry_268 (fun H locs hP hS => ?_)
            refine lv_goto (tgt := 296) C.1 C.2.1 d_MO_carry_269 (by decide) ?_
            refine lv_aload_n C.1 C.2.1 d_MO_carry_296 rfl (lv_at hl 9 rfl) ?_
            refine xcVv (rest := []) C hml hl.1 (k_MO_settle l D cA b (xu (xu st 0 0 0 0) 31 (((4 * (st 38 ((f_MO_find (xu st 0 0 0 0) a1)).toNatClampNeg 0)) + (st 39 ((f_MO_find (xu st 0 0 0 0) a1)).toNatClampNeg 0))).toNatClampNeg 0 1) (qok_xa (qok_xu hq (by decide)) (by decide)) (cok_of (cok_of hc (fun _ => xu_a (by decide))) (fun _ => xu_a (by decide)))) q_MO_settle rfl rfl wg_1119 wg_1121 ws_56 ⟨Nat.le_of_ble_eq_true rfl, Nat.le_of_ble_eq_true rfl⟩ hP hS o_MO rfl c_MO rfl (Nat.le_of_ble_eq_true rfl) d_MO_carry_297 rfl (fun H locs hP hS => ?_)
            refine lv_iconst (v := 1) C.1 C.2.1 d_MO_carry_300 (by decide) ?_
            exact xrz C hlk hr bz_1 hP hS d_MO_carry_301 ⟨by rw [f_MO_carry, if_pos h1, if_neg h2, if_neg h3, if_neg h4, if_neg h5, if_neg h6, if_pos h7, if_neg h8], by rw [f_MO_carry, if_pos h1, if_neg h2, if_neg h3, if_neg h4, if_neg h5, if_neg h6, if_pos h7, if_neg h8]⟩
          · refine lv_iload C.1 C.2.1 d_MO_carry_243 (lv_at hl 0 rfl) ?_
            refine lv_if_eq (tgt := 267) C.1 C.2.1 d_MO_carry_245 (by decide) (fun _ => ?_) (fun h => absurd (by decide) h)
            refine lv_iconst (v := 0) C.1 C.2.1 d_MO_carry_267 (by decide) ?_
            refine xzast mw_inj C hP hS om_31 rfl (ix4 (nok_ix hm ⟨(fi_lt (qok_xu hq (by decide)) h1).1, by have z := (fi_lt (qok_xu hq (by decide)) h1).2; rw [xu_f (by decide)] at z; exact z⟩).1 ((nok_ix hm ⟨(fi_lt (qok_xu hq (by decide)) h1).1, by have z := (fi_lt (qok_xu hq (by decide)) h1).2; rw [xu_f (by decide)] at z; exact z⟩).2.1 (Or.inr (Or.inr h7)))) rfl d_MO_carry_268 (fun H locs hP hS => ?_)
            refine lv_goto (tgt := 296) C.1 C.2.1 d_MO_carry_269 (by decide) ?_
            refine lv_aload_n C.1 C.2.1 d_MO_carry_296 rfl (lv_at hl 9 rfl) ?_
            refine xcVv (rest := []) C hml hl.1 (k_MO_settle l D cA b (xu (xu st 0 0 0 0) 31 (((4 * (st 38 ((f_MO_find (xu st 0 0 0 0) a1)).toNatClampNeg 0)) + (st 39 ((f_MO_find (xu st 0 0 0 0) a1)).toNatClampNeg 0))).toNatClampNeg 0 0) (qok_xa (qok_xu hq (by decide)) (by decide)) (cok_of (cok_of hc (fun _ => xu_a (by decide))) (fun _ => xu_a (by decide)))) q_MO_settle rfl rfl wg_1119 wg_1121 ws_56 ⟨Nat.le_of_ble_eq_true rfl, Nat.le_of_ble_eq_true rfl⟩ hP hS o_MO rfl c_MO rfl (Nat.le_of_ble_eq_true rfl) d_MO_carry_297 rfl (fun H locs hP hS => ?_)
            refine lv_iconst (v := 1) C.1 C.2.1 d_MO_carry_300 (by decide) ?_
            exact xrz C hlk hr bz_1 hP hS d_MO_carry_301 ⟨by rw [f_MO_carry, if_pos h1, if_neg h2, if_neg h3, if_neg h4, if_neg h5, if_neg h6, if_pos h7, if_pos h8], by rw [f_MO_carry, if_pos h1, if_neg h2, if_neg h3, if_neg h4, if_neg h5, if_neg h6, if_pos h7, if_pos h8]⟩
        by_cases h9 : (st 37 ((f_MO_find (xu st 0 0 0 0) a1)).toNatClampNeg 0) = 5
        · refine lv_tableIn (tgt := 272) (off := 169) C.1 C.2.1 d_MO_carry_103 (by rw [h9]; decide) (by rw [h9]; decide) (by rw [h9]; rfl) (by decide) ?_
          refine lv_aload_n C.1 C.2.1 d_MO_carry_272 rfl (lv_at hl 9 rfl) ?_
          refine lv_iload C.1 C.2.1 d_MO_carry_273 (lv_at hl 6 rfl) ?_
          refine lv_iload C.1 C.2.1 d_MO_carry_275 (lv_at hl 5 rfl) ?_
          refine lv_iload C.1 C.2.1 d_MO_carry_277 (lv_at hl 4 rfl) ?_
          refine xcVv (rest := []) C hml hl.1 (k_MO_orders l D cA b (xu st 0 0 0 0) (st 38 ((f_MO_find (xu st 0 0 0 0) a1)).toNatClampNeg 0) (st 39 ((f_MO_find (xu st 0 0 0 0) a1)).toNatClampNeg 0) (st 40 ((f_MO_find (xu st 0 0 0 0) a1)).toNatClampNeg 0) (qok_xu hq (by decide)) (nok_ix hm ⟨(fi_lt (qok_xu hq (by decide)) h1).1, by have z := (fi_lt (qok_xu hq (by decide)) h1).2; rw [xu_f (by decide)] at z; exact z⟩).1 ((nok_ix hm ⟨(fi_lt (qok_xu hq (by decide)) h1).1, by have z := (fi_lt (qok_xu hq (by decide)) h1).2; rw [xu_f (by decide)] at z; exact z⟩).2.2.1 h4 h5 h6 h7) (by rw [xu_a (by decide)]; exact ((nok_ix hm ⟨(fi_lt (qok_xu hq (by decide)) h1).1, by have z := (fi_lt (qok_xu hq (by decide)) h1).2; rw [xu_f (by decide)] at z; exact z⟩).2.2.2 h9))) q_MO_orders rfl rfl wg_1191 wg_1193 ws_68 ⟨Nat.le_of_ble_eq_true rfl, Nat.le_of_ble_eq_true rfl⟩ hP hS o_MO rfl c_MO rfl (Nat.le_of_ble_eq_true rfl) d_MO_carry_279 rfl (fun H locs hP hS => ?_)
          refine lv_goto (tgt := 296) C.1 C.2.1 d_MO_carry_282 (by decide) ?_
          refine lv_aload_n C.1 C.2.1 d_MO_carry_296 rfl (lv_at hl 9 rfl) ?_
          refine xcVv (rest := []) C hml hl.1 (k_MO_settle l D cA b (f_MO_orders (xu st 0 0 0 0) (st 38 ((f_MO_find (xu st 0 0 0 0) a1)).toNatClampNeg 0) (st 39 ((f_MO_find (xu st 0 0 0 0) a1)).toNatClampNeg 0) (st 40 ((f_MO_find (xu st 0 0 0 0) a1)).toNatClampNeg 0)) (p_MO_orders (qok_xu hq (by decide))) (cok_of (cok_of hc (fun _ => xu_a (by decide))) (fun _ => fr_MO_orders (by simp) (by decide)))) q_MO_settle rfl rfl wg_1119 wg_1121 ws_56 ⟨Nat.le_of_ble_eq_true rfl, Nat.le_of_ble_eq_true rfl⟩ hP hS o_MO rfl c_MO rfl (Nat.le_of_ble_eq_true rfl) d_MO_carry_297 rfl (fun H locs hP hS => ?_)
          refine lv_iconst (v := 1) C.1 C.2.1 d_MO_carry_300 (by decide) ?_
          exact xrz C hlk hr bz_1 hP hS d_MO_carry_301 ⟨by rw [f_MO_carry, if_pos h1, if_neg h2, if_neg h3, if_neg h4, if_neg h5, if_neg h6, if_neg h7, if_pos h9], by rw [f_MO_carry, if_pos h1, if_neg h2, if_neg h3, if_neg h4, if_neg h5, if_neg h6, if_neg h7, if_pos h9]⟩
        refine lv_tableOut (tgt := 285) C.1 C.2.1 d_MO_carry_103 (by have eh4 := lv_neT h4 (a := 1) (by decide); have eh5 := lv_neT h5 (a := 2) (by decide); have eh6 := lv_neT h6 (a := 3) (by decide); have eh7 := lv_neT h7 (a := 4) (by decide); have eh9 := lv_neT h9 (a := 5) (by decide); omega) (by decide) ?_
        refine lv_aload_n C.1 C.2.1 d_MO_carry_285 rfl (lv_at hl 9 rfl) ?_
        refine xget C hP o_MO rfl c_MO (k := 61) (v := .ref (b + 55)) (by decide) wg_938 rfl d_MO_carry_286 ?_
        refine lv_iload C.1 C.2.1 d_MO_carry_289 (lv_at hl 5 rfl) ?_
        refine lv_iconst (v := 1) C.1 C.2.1 d_MO_carry_291 (by decide) ?_
        refine lv_iload C.1 C.2.1 d_MO_carry_292 (lv_at hl 3 rfl) ?_
        refine lv_iadd C.1 C.2.1 d_MO_carry_294 ?_
        refine xiast mw_inj C hP hS om_55 rfl ((nok_ix hm ⟨(fi_lt (qok_xu hq (by decide)) h1).1, by have z := (fi_lt (qok_xu hq (by decide)) h1).2; rw [xu_f (by decide)] at z; exact z⟩).2.2.1 h4 h5 h6 h7) rfl d_MO_carry_295 (fun H locs hP hS => ?_)
        refine lv_aload_n C.1 C.2.1 d_MO_carry_296 rfl (lv_at hl 9 rfl) ?_
        refine xcVv (rest := []) C hml hl.1 (k_MO_settle l D cA b (xu (xu st 0 0 0 0) 55 ((st 39 ((f_MO_find (xu st 0 0 0 0) a1)).toNatClampNeg 0)).toNatClampNeg 0 (1 + (st 41 ((f_MO_find (xu st 0 0 0 0) a1)).toNatClampNeg 0))) (qok_xa (qok_xu hq (by decide)) (by decide)) (cok_of (cok_of hc (fun _ => xu_a (by decide))) (fun _ => xu_a (by decide)))) q_MO_settle rfl rfl wg_1119 wg_1121 ws_56 ⟨Nat.le_of_ble_eq_true rfl, Nat.le_of_ble_eq_true rfl⟩ hP hS o_MO rfl c_MO rfl (Nat.le_of_ble_eq_true rfl) d_MO_carry_297 rfl (fun H locs hP hS => ?_)
        refine lv_iconst (v := 1) C.1 C.2.1 d_MO_carry_300 (by decide) ?_
        exact xrz C hlk hr bz_1 hP hS d_MO_carry_301 ⟨by rw [f_MO_carry, if_pos h1, if_neg h2, if_neg h3, if_neg h4, if_neg h5, if_neg h6, if_neg h7, if_neg h9], by rw [f_MO_carry, if_pos h1, if_neg h2, if_neg h3, if_neg h4, if_neg h5, if_neg h6, if_neg h7, if_neg h9]⟩
      · refine lv_iconst (v := 1) C.1 C.2.1 d_MO_carry_94 (by decide) ?_
        refine lv_goto (tgt := 99) C.1 C.2.1 d_MO_carry_95 (by decide) ?_
        refine lv_istore C.1 C.2.1 d_MO_carry_99 hl (by decide) rfl (fun ls hl => ?_)
        have hl : lv_has ls 12 [(11, .int 1), (10, .int (st 43 ((f_MO_find (xu st 0 0 0 0) a1)).toNatClampNeg 0)), (9, .int (st 42 ((f_MO_find (xu st 0 0 0 0) a1)).toNatClampNeg 0)), (8, .int (st 41 ((f_MO_find (xu st 0 0 0 0) a1)).toNatClampNeg 0)), (7, .int (st 40 ((f_MO_find (xu st 0 0 0 0) a1)).toNatClampNeg 0)), (6, .int (st 39 ((f_MO_find (xu st 0 0 0 0) a1)).toNatClampNeg 0)), (5, .int (st 38 ((f_MO_find (xu st 0 0 0 0) a1)).toNatClampNeg 0)), (4, .int (st 37 ((f_MO_find (xu st 0 0 0 0) a1)).toNatClampNeg 0)), (3, .int (f_MO_find (xu st 0 0 0 0) a1)), (0, .ref (b + 0)), (1, .int a1), (2, .int a2)] := hl
        refine lv_iload C.1 C.2.1 d_MO_carry_101 (lv_at hl 7 rfl) ?_
        by_cases h10 : (st 37 ((f_MO_find (xu st 0 0 0 0) a1)).toNatClampNeg 0) = 1
        · refine lv_tableIn (tgt := 136) (off := 33) C.1 C.2.1 d_MO_carry_103 (by rw [h10]; decide) (by rw [h10]; decide) (by rw [h10]; rfl) (by decide) ?_
          refine lv_iload C.1 C.2.1 d_MO_carry_136 (lv_at hl 0 rfl) ?_
          refine lv_if_eq (tgt := 296) C.1 C.2.1 d_MO_carry_138 (by decide) (fun h => absurd h (by decide)) (fun _ => ?_)
          refine lv_aload_n C.1 C.2.1 d_MO_carry_141 rfl (lv_at hl 9 rfl) ?_
          refine lv_iload_n C.1 C.2.1 d_MO_carry_142 rfl (lv_at hl 10 rfl) ?_
          refine lv_iconst (v := 4) C.1 C.2.1 d_MO_carry_143 (by decide) ?_
          refine lv_iload C.1 C.2.1 d_MO_carry_144 (lv_at hl 6 rfl) ?_
          refine lv_imul C.1 C.2.1 d_MO_carry_146 ?_
          refine lv_iload C.1 C.2.1 d_MO_carry_147 (lv_at hl 5 rfl) ?_
          refine lv_iadd C.1 C.2.1 d_MO_carry_149 ?_
          refine lv_iload C.1 C.2.1 d_MO_carry_150 (lv_at hl 4 rfl) ?_
          refine lv_iload C.1 C.2.1 d_MO_carry_152 (lv_at hl 3 rfl) ?_
          refine lv_iload C.1 C.2.1 d_MO_carry_154 (lv_at hl 2 rfl) ?_
          refine lv_iload C.1 C.2.1 d_MO_carry_156 (lv_at hl 1 rfl) ?_
          refine xcVv (rest := []) C hml hl.1 (k_MO_shows l D cA b (xu st 0 0 0 0) a1 ((4 * (st 38 ((f_MO_find (xu st 0 0 0 0) a1)).toNatClampNeg 0)) + (st 39 ((f_MO_find (xu st 0 0 0 0) a1)).toNatClampNeg 0)) (st 40 ((f_MO_find (xu st 0 0 0 0) a1)).toNatClampNeg 0) (st 41 ((f_MO_find (xu st 0 0 0 0) a1)).toNatClampNeg 0) (st 42 ((f_MO_find (xu st 0 0 0 0) a1)).toNatClampNeg 0) (st 43 ((f_MO_find (xu st 0 0 0 0) a1)).toNatClampNeg 0) (by rw [xu_f (by decide)]; exact hh)) q_MO_shows rfl rfl wg_1183 wg_1185 ws_66 ⟨Nat.le_of_ble_eq_true rfl, Nat.le_of_ble_eq_true rfl⟩ hP hS o_MO rfl c_MO rfl (Nat.le_of_ble_eq_true rfl) d_MO_carry_158 rfl (fun H locs hP hS => ?_)
          refine lv_goto (tgt := 296) C.1 C.2.1 d_MO_carry_161 (by decide) ?_
          refine lv_aload_n C.1 C.2.1 d_MO_carry_296 rfl (lv_at hl 9 rfl) ?_
          refine xcVv (rest := []) C hml hl.1 (k_MO_settle l D cA b (f_MO_shows (xu st 0 0 0 0) a1 ((4 * (st 38 ((f_MO_find (xu st 0 0 0 0) a1)).toNatClampNeg 0)) + (st 39 ((f_MO_find (xu st 0 0 0 0) a1)).toNatClampNeg 0)) (st 40 ((f_MO_find (xu st 0 0 0 0) a1)).toNatClampNeg 0) (st 41 ((f_MO_find (xu st 0 0 0 0) a1)).toNatClampNeg 0) (st 42 ((f_MO_find (xu st 0 0 0 0) a1)).toNatClampNeg 0) (st 43 ((f_MO_find (xu st 0 0 0 0) a1)).toNatClampNeg 0)) (qok_of (qok_xu hq (by decide)) (fr_MO_shows (by decide) (by decide))) (cok_of (cok_of hc (fun _ => xu_a (by decide))) (fun _ => fr_MO_shows (by simp) (by decide)))) q_MO_settle rfl rfl wg_1119 wg_1121 ws_56 ⟨Nat.le_of_ble_eq_true rfl, Nat.le_of_ble_eq_true rfl⟩ hP hS o_MO rfl c_MO rfl (Nat.le_of_ble_eq_true rfl) d_MO_carry_297 rfl (fun H locs hP hS => ?_)
          refine lv_iconst (v := 1) C.1 C.2.1 d_MO_carry_300 (by decide) ?_
          exact xrz C hlk hr bz_1 hP hS d_MO_carry_301 ⟨by rw [f_MO_carry, if_pos h1, if_neg h2, if_pos h3, if_pos h10], by rw [f_MO_carry, if_pos h1, if_neg h2, if_pos h3, if_pos h10]⟩
        by_cases h11 : (st 37 ((f_MO_find (xu st 0 0 0 0) a1)).toNatClampNeg 0) = 2
        · refine lv_tableIn (tgt := 164) (off := 61) C.1 C.2.1 d_MO_carry_103 (by rw [h11]; decide) (by rw [h11]; decide) (by rw [h11]; rfl) (by decide) ?_
          refine lv_iload C.1 C.2.1 d_MO_carry_164 (lv_at hl 0 rfl) ?_
          refine lv_if_eq (tgt := 296) C.1 C.2.1 d_MO_carry_166 (by decide) (fun h => absurd h (by decide)) (fun _ => ?_)
          refine lv_aload_n C.1 C.2.1 d_MO_carry_169 rfl (lv_at hl 9 rfl) ?_
          refine lv_iload_n C.1 C.2.1 d_MO_carry_170 rfl (lv_at hl 10 rfl) ?_
          refine lv_iload C.1 C.2.1 d_MO_carry_171 (lv_at hl 6 rfl) ?_
          refine lv_iconst (v := 4) C.1 C.2.1 d_MO_carry_173 (by decide) ?_
          refine lv_iload C.1 C.2.1 d_MO_carry_174 (lv_at hl 6 rfl) ?_
          refine lv_imul C.1 C.2.1 d_MO_carry_176 ?_
          refine lv_iload C.1 C.2.1 d_MO_carry_177 (lv_at hl 5 rfl) ?_
          refine lv_iadd C.1 C.2.1 d_MO_carry_179 ?_
          refine lv_iload C.1 C.2.1 d_MO_carry_180 (lv_at hl 3 rfl) ?_
          refine xcVv (rest := []) C hml hl.1 (k_MO_knows l D cA b (xu st 0 0 0 0) a1 (st 38 ((f_MO_find (xu st 0 0 0 0) a1)).toNatClampNeg 0) ((4 * (st 38 ((f_MO_find (xu st 0 0 0 0) a1)).toNatClampNeg 0)) + (st 39 ((f_MO_find (xu st 0 0 0 0) a1)).toNatClampNeg 0)) (st 41 ((f_MO_find (xu st 0 0 0 0) a1)).toNatClampNeg 0) (qok_xu hq (by decide)) (nok_ix hm ⟨(fi_lt (qok_xu hq (by decide)) h1).1, by have z := (fi_lt (qok_xu hq (by decide)) h1).2; rw [xu_f (by decide)] at z; exact z⟩).1 (ix4 (nok_ix hm ⟨(fi_lt (qok_xu hq (by decide)) h1).1, by have z := (fi_lt (qok_xu hq (by decide)) h1).2; rw [xu_f (by decide)] at z; exact z⟩).1 ((nok_ix hm ⟨(fi_lt (qok_xu hq (by decide)) h1).1, by have z := (fi_lt (qok_xu hq (by decide)) h1).2; rw [xu_f (by decide)] at z; exact z⟩).2.1 (Or.inr (Or.inl h11))))) q_MO_knows rfl rfl wg_1187 wg_1189 ws_67 ⟨Nat.le_of_ble_eq_true rfl, Nat.le_of_ble_eq_true rfl⟩ hP hS o_MO rfl c_MO rfl (Nat.le_of_ble_eq_true rfl) d_MO_carry_182 rfl (fun H locs hP hS => ?_)
          refine lv_goto (tgt := 296) C.1 C.2.1 d_MO_carry_185 (by decide) ?_
          refine lv_aload_n C.1 C.2.1 d_MO_carry_296 rfl (lv_at hl 9 rfl) ?_
          refine xcVv (rest := []) C hml hl.1 (k_MO_settle l D cA b (f_MO_knows (xu st 0 0 0 0) a1 (st 38 ((f_MO_find (xu st 0 0 0 0) a1)).toNatClampNeg 0) ((4 * (st 38 ((f_MO_find (xu st 0 0 0 0) a1)).toNatClampNeg 0)) + (st 39 ((f_MO_find (xu st 0 0 0 0) a1)).toNatClampNeg 0)) (st 41 ((f_MO_find (xu st 0 0 0 0) a1)).toNatClampNeg 0)) (p_MO_knows (qok_xu hq (by decide))) (cok_of (cok_of hc (fun _ => xu_a (by decide))) (fun _ => fr_MO_knows (by simp) (by decide)))) q_MO_settle rfl rfl wg_1119 wg_1121 ws_56 ⟨Nat.le_of_ble_eq_true rfl, Nat.le_of_ble_eq_true rfl⟩ hP hS o_MO rfl c_MO rfl (Nat.le_of_ble_eq_true rfl) d_MO_carry_297 rfl (fun H locs hP hS => ?_)
          refine lv_iconst (v := 1) C.1 C.2.1 d_MO_carry_300 (by decide) ?_
          exact xrz C hlk hr bz_1 hP hS d_MO_carry_301 ⟨by rw [f_MO_carry, if_pos h1, if_neg h2, if_pos h3, if_neg h10, if_pos h11], by rw [f_MO_carry, if_pos h1, if_neg h2, if_pos h3, if_neg h10, if_pos h11]⟩
        by_cases h12 : (st 37 ((f_MO_find (xu st 0 0 0 0) a1)).toNatClampNeg 0) = 3
        · refine lv_tableIn (tgt := 188) (off := 85) C.1 C.2.1 d_MO_carry_103 (by rw [h12]; decide) (by rw [h12]; decide) (by rw [h12]; rfl) (by decide) ?_
          refine lv_aload_n C.1 C.2.1 d_MO_carry_188 rfl (lv_at hl 9 rfl) ?_
          refine xget C hP o_MO rfl c_MO (k := 18) (v := .ref (b + 15)) (by decide) wg_895 rfl d_MO_carry_189 ?_
          refine lv_iload C.1 C.2.1 d_MO_carry_192 (lv_at hl 6 rfl) ?_
          refine lv_iload C.1 C.2.1 d_MO_carry_194 (lv_at hl 0 rfl) ?_
          refine lv_if_eq (tgt := 206) C.1 C.2.1 d_MO_carry_196 (by decide) (fun h => absurd h (by decide)) (fun _ => ?_)
          refine lv_aload_n C.1 C.2.1 d_MO_carry_199 rfl (lv_at hl 9 rfl) ?_
          refine xget C hP o_MO rfl c_MO (k := 1) (v := .int (st 0 1 0)) (by decide) wg_878 (congrArg Value.int (xu_f (by decide))) d_MO_carry_200 ?_
          refine lv_goto (tgt := 213) C.1 C.2.1 d_MO_carry_203 (by decide) ?_
          refine xiast mw_inj C hP hS om_15 rfl (nok_ix hm ⟨(fi_lt (qok_xu hq (by decide)) h1).1, by have z := (fi_lt (qok_xu hq (by decide)) h1).2; rw [xu_f (by decide)] at z; exact z⟩).1 rfl d_MO_carry_213 (fun H locs hP hS => ?_)
          refine lv_goto (tgt := 296) C.1 C.2.1 d_MO_carry_214 (by decide) ?_
          refine lv_aload_n C.1 C.2.1 d_MO_carry_296 rfl (lv_at hl 9 rfl) ?_
          refine xcVv (rest := []) C hml hl.1 (k_MO_settle l D cA b (xu (xu st 0 0 0 0) 15 ((st 38 ((f_MO_find (xu st 0 0 0 0) a1)).toNatClampNeg 0)).toNatClampNeg 0 (st 0 1 0)) (qok_xa (qok_xu hq (by decide)) (by decide)) (cok_of (cok_of hc (fun _ => xu_a (by decide))) (fun _ => xu_a (by decide)))) q_MO_settle rfl rfl wg_1119 wg_1121 ws_56 ⟨Nat.le_of_ble_eq_true rfl, Nat.le_of_ble_eq_true rfl⟩ hP hS o_MO rfl c_MO rfl (Nat.le_of_ble_eq_true rfl) d_MO_carry_297 rfl (fun H locs hP hS => ?_)
          refine lv_iconst (v := 1) C.1 C.2.1 d_MO_carry_300 (by decide) ?_
          exact xrz C hlk hr bz_1 hP hS d_MO_carry_301 ⟨by rw [f_MO_carry, if_pos h1, if_neg h2, if_pos h3, if_neg h10, if_neg h11, if_pos h12], by rw [f_MO_carry, if_pos h1, if_neg h2, if_pos h3, if_neg h10, if_neg h11, if_pos h12]⟩
        by_cases h13 : (st 37 ((f_MO_find (xu st 0 0 0 0) a1)).toNatClampNeg 0) = 4
        · refine lv_tableIn (tgt := 217) (off := 114) C.1 C.2.1 d_MO_carry_103 (by rw [h13]; decide) (by rw [h13]; decide) (by rw [h13]; rfl) (by decide) ?_
          refine lv_aload_n C.1 C.2.1 d_MO_carry_217 rfl (lv_at hl 9 rfl) ?_
          refine xget C hP o_MO rfl c_MO (k := 34) (v := .ref (b + 31)) (by decide) wg_911 rfl d_MO_carry_218 ?_
          refine lv_iconst (v := 4) C.1 C.2.1 d_MO_carry_221 (by decide) ?_
          refine lv_iload C.1 C.2.1 d_MO_carry_222 (lv_at hl 6 rfl) ?_
          refine lv_imul C.1 C.2.1 d_MO_carry_224 ?_
          refine lv_iload C.1 C.2.1 d_MO_carry_225 (lv_at hl 5 rfl) ?_
          refine lv_iadd C.1 C.2.1 d_MO_carry_227 ?_
          refine lv_aload_n C.1 C.2.1 d_MO_carry_228 rfl (lv_at hl 9 rfl) ?_
          refine xget C hP o_MO rfl c_MO (k := 34) (v := .ref (b + 31)) (by decide) wg_911 rfl d_MO_carry_229 ?_
          refine lv_iconst (v := 4) C.1 C.2.1 d_MO_carry_232 (by decide) ?_
          refine lv_iload C.1 C.2.1 d_MO_carry_233 (lv_at hl 6 rfl) ?_
          refine lv_imul C.1 C.2.1 d_MO_carry_235 ?_
          refine lv_iload C.1 C.2.1 d_MO_carry_236 (lv_at hl 5 rfl) ?_
          refine lv_iadd C.1 C.2.1 d_MO_carry_238 ?_
          refine xzald C hP om_31 rfl (v := (bz (st 31 (((4 * (st 38 ((f_MO_find (xu st 0 0 0 0) a1)).toNatClampNeg 0)) + (st 39 ((f_MO_find (xu st 0 0 0 0) a1)).toNatClampNeg 0))).toNatClampNeg 0))) (ix4 (nok_ix hm ⟨(fi_lt (qok_xu hq (by decide)) h1).1, by have z := (fi_lt (qok_xu hq (by decide)) h1).2; rw [xu_f (by decide)] at z; exact z⟩).1 ((nok_ix hm ⟨(fi_lt (qok_xu hq (by decide)) h1).1, by have z := (fi_lt (qok_xu hq (by decide)) h1).2; rw [xu_f (by decide)] at z; exact z⟩).2.1 (Or.inr (Or.inr h13)))) (congrArg (fun z => Value.int (bz z)) (xu_a (by decide))) d_MO_carry_239 ?_
          refine lv_if_ne (tgt := 263) C.1 C.2.1 d_MO_carry_240 (by decide) (fun h14 => ?_) (fun h14 => ?_)
          · refine lv_iconst (v := 1) C.1 C.2.1 d_MO_carry_263 (by decide) ?_
            refine lv_goto (tgt := 268) C.1 C.2.1 d_MO_carry_264 (by decide) ?_
            refine xzast mw_inj C hP hS om_31 rfl (ix4 (nok_ix hm ⟨(fi_lt (qok_xu hq (by decide)) h1).1, by have z := (fi_lt (qok_xu hq (by decide)) h1).2; rw [xu_f (by decide)] at z; exact z⟩).1 ((nok_ix hm ⟨(fi_lt (qok_xu hq (by decide)) h1).1, by have z := (fi_lt (qok_xu hq (by decide)) h1).2; rw [xu_f (by decide)] at z; exact z⟩).2.1 (Or.inr (Or.inr h13)))) rfl d_MO_carry_268 (fun H locs hP hS => ?_)
            refine lv_goto (tgt := 296) C.1 C.2.1 d_MO_carry_269 (by decide) ?_
            refine lv_aload_n C.1 C.2.1 d_MO_carry_296 rfl (lv_at hl 9 rfl) ?_
            refine xcVv (rest := []) C hml hl.1 (k_MO_settle l D cA b (xu (xu st 0 0 0 0) 31 (((4 * (st 38 ((f_MO_find (xu st 0 0 0 0) a1)).toNatClampNeg 0)) + (st 39 ((f_MO_find (xu st 0 0 0 0) a1)).toNatClampNeg 0))).toNatClampNeg 0 1) (qok_xa (qok_xu hq (by decide)) (by decide)) (cok_of (cok_of hc (fun _ => xu_a (by decide))) (fun _ => xu_a (by decide)))) q_MO_settle rfl rfl wg_1119 wg_1121 ws_56 ⟨Nat.le_of_ble_eq_true rfl, Nat.le_of_ble_eq_true rfl⟩ hP hS o_MO rfl c_MO rfl (Nat.le_of_ble_eq_true rfl) d_MO_carry_297 rfl (fun H locs hP hS => ?_)
            refine lv_iconst (v := 1) C.1 C.2.1 d_MO_carry_300 (by decide) ?_
            exact xrz C hlk hr bz_1 hP hS d_MO_carry_301 ⟨by rw [f_MO_carry, if_pos h1, if_neg h2, if_pos h3, if_neg h10, if_neg h11, if_neg h12, if_pos h13, if_neg h14], by rw [f_MO_carry, if_pos h1, if_neg h2, if_pos h3, if_neg h10, if_neg h11, if_neg h12, if_pos h13, if_neg h14]⟩
          · refine lv_iload C.1 C.2.1 d_MO_carry_243 (lv_at hl 0 rfl) ?_
            refine lv_if_eq (tgt := 267) C.1 C.2.1 d_MO_carry_245 (by decide) (fun h => absurd h (by decide)) (fun _ => ?_)
            refine lv_aload_n C.1 C.2.1 d_MO_carry_248 rfl (lv_at hl 9 rfl) ?_
            refine xget C hP o_MO rfl c_MO (k := 33) (v := .ref (b + 30)) (by decide) wg_910 rfl d_MO_carry_249 ?_
            refine lv_iconst (v := 4) C.1 C.2.1 d_MO_carry_252 (by decide) ?_
            refine lv_iload C.1 C.2.1 d_MO_carry_253 (lv_at hl 6 rfl) ?_
            refine lv_imul C.1 C.2.1 d_MO_carry_255 ?_
            refine lv_iload C.1 C.2.1 d_MO_carry_256 (lv_at hl 5 rfl) ?_
            refine lv_iadd C.1 C.2.1 d_MO_carry_258 ?_
            refine xzald C hP om_30 rfl (v := (bz (st 30 (((4 * (st 38 ((f_MO_find (xu st 0 0 0 0) a1)).toNatClampNeg 0)) + (st 39 ((f_MO_find (xu st 0 0 0 0) a1)).toNatClampNeg 0))).toNatClampNeg 0))) (ix4 (nok_ix hm ⟨(fi_lt (qok_xu hq (by decide)) h1).1, by have z := (fi_lt (qok_xu hq (by decide)) h1).2; rw [xu_f (by decide)] at z; exact z⟩).1 ((nok_ix hm ⟨(fi_lt (qok_xu hq (by decide)) h1).1, by have z := (fi_lt (qok_xu hq (by decide)) h1).2; rw [xu_f (by decide)] at z; exact z⟩).2.1 (Or.inr (Or.inr h13)))) (congrArg (fun z => Value.int (bz z)) (xu_a (by decide))) d_MO_carry_259 ?_
            refine lv_if_eq (tgt := 267) C.1 C.2.1 d_MO_carry_260 (by decide) (fun h15 => ?_) (fun h15 => ?_)
            · refine lv_iconst (v := 0) C.1 C.2.1 d_MO_carry_267 (by decide) ?_
              refine xzast mw_inj C hP hS om_31 rfl (ix4 (nok_ix hm ⟨(fi_lt (qok_xu hq (by decide)) h1).1, by have z := (fi_lt (qok_xu hq (by decide)) h1).2; rw [xu_f (by decide)] at z; exact z⟩).1 ((nok_ix hm ⟨(fi_lt (qok_xu hq (by decide)) h1).1, by have z := (fi_lt (qok_xu hq (by decide)) h1).2; rw [xu_f (by decide)] at z; exact z⟩).2.1 (Or.inr (Or.inr h13)))) rfl d_MO_carry_268 (fun H locs hP hS => ?_)
              refine lv_goto (tgt := 296) C.1 C.2.1 d_MO_carry_269 (by decide) ?_
              refine lv_aload_n C.1 C.2.1 d_MO_carry_296 rfl (lv_at hl 9 rfl) ?_
              refine xcVv (rest := []) C hml hl.1 (k_MO_settle l D cA b (xu (xu st 0 0 0 0) 31 (((4 * (st 38 ((f_MO_find (xu st 0 0 0 0) a1)).toNatClampNeg 0)) + (st 39 ((f_MO_find (xu st 0 0 0 0) a1)).toNatClampNeg 0))).toNatClampNeg 0 0) (qok_xa (qok_xu hq (by decide)) (by decide)) (cok_of (cok_of hc (fun _ => xu_a (by decide))) (fun _ => xu_a (by decide)))) q_MO_settle rfl rfl wg_1119 wg_1121 ws_56 ⟨Nat.le_of_ble_eq_true rfl, Nat.le_of_ble_eq_true rfl⟩ hP hS o_MO rfl c_MO rfl (Nat.le_of_ble_eq_true rfl) d_MO_carry_297 rfl (fun H locs hP hS => ?_)
              refine lv_iconst (v := 1) C.1 C.2.1 d_MO_carry_300 (by decide) ?_
              exact xrz C hlk hr bz_1 hP hS d_MO_carry_301 ⟨by rw [f_MO_carry, if_pos h1, if_neg h2, if_pos h3, if_neg h10, if_neg h11, if_neg h12, if_pos h13, if_pos h14, if_pos h15], by rw [f_MO_carry, if_pos h1, if_neg h2, if_pos h3, if_neg h10, if_neg h11, if_neg h12, if_pos h13, if_pos h14, if_pos h15]⟩
            · refine lv_iconst (v := 1) C.1 C.2.1 d_MO_carry_263 (by decide) ?_
              refine lv_goto (tgt := 268) C.1 C.2.1 d_MO_carry_264 (by decide) ?_
              refine xzast mw_inj C hP hS om_31 rfl (ix4 (nok_ix hm ⟨(fi_lt (qok_xu hq (by decide)) h1).1, by have z := (fi_lt (qok_xu hq (by decide)) h1).2; rw [xu_f (by decide)] at z; exact z⟩).1 ((nok_ix hm ⟨(fi_lt (qok_xu hq (by decide)) h1).1, by have z := (fi_lt (qok_xu hq (by decide)) h1).2; rw [xu_f (by decide)] at z; exact z⟩).2.1 (Or.inr (Or.inr h13)))) rfl d_MO_carry_268 (fun H locs hP hS => ?_)
              refine lv_goto (tgt := 296) C.1 C.2.1 d_MO_carry_269 (by decide) ?_
              refine lv_aload_n C.1 C.2.1 d_MO_carry_296 rfl (lv_at hl 9 rfl) ?_
              refine xcVv (rest := []) C hml hl.1 (k_MO_settle l D cA b (xu (xu st 0 0 0 0) 31 (((4 * (st 38 ((f_MO_find (xu st 0 0 0 0) a1)).toNatClampNeg 0)) + (st 39 ((f_MO_find (xu st 0 0 0 0) a1)).toNatClampNeg 0))).toNatClampNeg 0 1) (qok_xa (qok_xu hq (by decide)) (by decide)) (cok_of (cok_of hc (fun _ => xu_a (by decide))) (fun _ => xu_a (by decide)))) q_MO_settle rfl rfl wg_1119 wg_1121 ws_56 ⟨Nat.le_of_ble_eq_true rfl, Nat.le_of_ble_eq_true rfl⟩ hP hS o_MO rfl c_MO rfl (Nat.le_of_ble_eq_true rfl) d_MO_carry_297 rfl (fun H locs hP hS => ?_)
              refine lv_iconst (v := 1) C.1 C.2.1 d_MO_carry_300 (by decide) ?_
              exact xrz C hlk hr bz_1 hP hS d_MO_carry_301 ⟨by rw [f_MO_carry, if_pos h1, if_neg h2, if_pos h3, if_neg h10, if_neg h11, if_neg h12, if_pos h13, if_pos h14, if_neg h15], by rw [f_MO_carry, if_pos h1, if_neg h2, if_pos h3, if_neg h10, if_neg h11, if_neg h12, if_pos h13, if_pos h14, if_neg h15]⟩
        by_cases h16 : (st 37 ((f_MO_find (xu st 0 0 0 0) a1)).toNatClampNeg 0) = 5
        · refine lv_tableIn (tgt := 272) (off := 169) C.1 C.2.1 d_MO_carry_103 (by rw [h16]; decide) (by rw [h16]; decide) (by rw [h16]; rfl) (by decide) ?_
          refine lv_aload_n C.1 C.2.1 d_MO_carry_272 rfl (lv_at hl 9 rfl) ?_
          refine lv_iload C.1 C.2.1 d_MO_carry_273 (lv_at hl 6 rfl) ?_
          refine lv_iload C.1 C.2.1 d_MO_carry_275 (lv_at hl 5 rfl) ?_
          refine lv_iload C.1 C.2.1 d_MO_carry_277 (lv_at hl 4 rfl) ?_
          refine xcVv (rest := []) C hml hl.1 (k_MO_orders l D cA b (xu st 0 0 0 0) (st 38 ((f_MO_find (xu st 0 0 0 0) a1)).toNatClampNeg 0) (st 39 ((f_MO_find (xu st 0 0 0 0) a1)).toNatClampNeg 0) (st 40 ((f_MO_find (xu st 0 0 0 0) a1)).toNatClampNeg 0) (qok_xu hq (by decide)) (nok_ix hm ⟨(fi_lt (qok_xu hq (by decide)) h1).1, by have z := (fi_lt (qok_xu hq (by decide)) h1).2; rw [xu_f (by decide)] at z; exact z⟩).1 ((nok_ix hm ⟨(fi_lt (qok_xu hq (by decide)) h1).1, by have z := (fi_lt (qok_xu hq (by decide)) h1).2; rw [xu_f (by decide)] at z; exact z⟩).2.2.1 h10 h11 h12 h13) (by rw [xu_a (by decide)]; exact ((nok_ix hm ⟨(fi_lt (qok_xu hq (by decide)) h1).1, by have z := (fi_lt (qok_xu hq (by decide)) h1).2; rw [xu_f (by decide)] at z; exact z⟩).2.2.2 h16))) q_MO_orders rfl rfl wg_1191 wg_1193 ws_68 ⟨Nat.le_of_ble_eq_true rfl, Nat.le_of_ble_eq_true rfl⟩ hP hS o_MO rfl c_MO rfl (Nat.le_of_ble_eq_true rfl) d_MO_carry_279 rfl (fun H locs hP hS => ?_)
          refine lv_goto (tgt := 296) C.1 C.2.1 d_MO_carry_282 (by decide) ?_
          refine lv_aload_n C.1 C.2.1 d_MO_carry_296 rfl (lv_at hl 9 rfl) ?_
          refine xcVv (rest := []) C hml hl.1 (k_MO_settle l D cA b (f_MO_orders (xu st 0 0 0 0) (st 38 ((f_MO_find (xu st 0 0 0 0) a1)).toNatClampNeg 0) (st 39 ((f_MO_find (xu st 0 0 0 0) a1)).toNatClampNeg 0) (st 40 ((f_MO_find (xu st 0 0 0 0) a1)).toNatClampNeg 0)) (p_MO_orders (qok_xu hq (by decide))) (cok_of (cok_of hc (fun _ => xu_a (by decide))) (fun _ => fr_MO_orders (by simp) (by decide)))) q_MO_settle rfl rfl wg_1119 wg_1121 ws_56 ⟨Nat.le_of_ble_eq_true rfl, Nat.le_of_ble_eq_true rfl⟩ hP hS o_MO rfl c_MO rfl (Nat.le_of_ble_eq_true rfl) d_MO_carry_297 rfl (fun H locs hP hS => ?_)
          refine lv_iconst (v := 1) C.1 C.2.1 d_MO_carry_300 (by decide) ?_
          exact xrz C hlk hr bz_1 hP hS d_MO_carry_301 ⟨by rw [f_MO_carry, if_pos h1, if_neg h2, if_pos h3, if_neg h10, if_neg h11, if_neg h12, if_neg h13, if_pos h16], by rw [f_MO_carry, if_pos h1, if_neg h2, if_pos h3, if_neg h10, if_neg h11, if_neg h12, if_neg h13, if_pos h16]⟩
        refine lv_tableOut (tgt := 285) C.1 C.2.1 d_MO_carry_103 (by have eh10 := lv_neT h10 (a := 1) (by decide); have eh11 := lv_neT h11 (a := 2) (by decide); have eh12 := lv_neT h12 (a := 3) (by decide); have eh13 := lv_neT h13 (a := 4) (by decide); have eh16 := lv_neT h16 (a := 5) (by decide); omega) (by decide) ?_
        refine lv_aload_n C.1 C.2.1 d_MO_carry_285 rfl (lv_at hl 9 rfl) ?_
        refine xget C hP o_MO rfl c_MO (k := 61) (v := .ref (b + 55)) (by decide) wg_938 rfl d_MO_carry_286 ?_
        refine lv_iload C.1 C.2.1 d_MO_carry_289 (lv_at hl 5 rfl) ?_
        refine lv_iconst (v := 1) C.1 C.2.1 d_MO_carry_291 (by decide) ?_
        refine lv_iload C.1 C.2.1 d_MO_carry_292 (lv_at hl 3 rfl) ?_
        refine lv_iadd C.1 C.2.1 d_MO_carry_294 ?_
        refine xiast mw_inj C hP hS om_55 rfl ((nok_ix hm ⟨(fi_lt (qok_xu hq (by decide)) h1).1, by have z := (fi_lt (qok_xu hq (by decide)) h1).2; rw [xu_f (by decide)] at z; exact z⟩).2.2.1 h10 h11 h12 h13) rfl d_MO_carry_295 (fun H locs hP hS => ?_)
        refine lv_aload_n C.1 C.2.1 d_MO_carry_296 rfl (lv_at hl 9 rfl) ?_
        refine xcVv (rest := []) C hml hl.1 (k_MO_settle l D cA b (xu (xu st 0 0 0 0) 55 ((st 39 ((f_MO_find (xu st 0 0 0 0) a1)).toNatClampNeg 0)).toNatClampNeg 0 (1 + (st 41 ((f_MO_find (xu st 0 0 0 0) a1)).toNatClampNeg 0))) (qok_xa (qok_xu hq (by decide)) (by decide)) (cok_of (cok_of hc (fun _ => xu_a (by decide))) (fun _ => xu_a (by decide)))) q_MO_settle rfl rfl wg_1119 wg_1121 ws_56 ⟨Nat.le_of_ble_eq_true rfl, Nat.le_of_ble_eq_true rfl⟩ hP hS o_MO rfl c_MO rfl (Nat.le_of_ble_eq_true rfl) d_MO_carry_297 rfl (fun H locs hP hS => ?_)
        refine lv_iconst (v := 1) C.1 C.2.1 d_MO_carry_300 (by decide) ?_
        exact xrz C hlk hr bz_1 hP hS d_MO_carry_301 ⟨by rw [f_MO_carry, if_pos h1, if_neg h2, if_pos h3, if_neg h10, if_neg h11, if_neg h12, if_neg h13, if_neg h16], by rw [f_MO_carry, if_pos h1, if_neg h2, if_pos h3, if_neg h10, if_neg h11, if_neg h12, if_neg h13, if_neg h16]⟩
    · refine lv_aload_n C.1 C.2.1 d_MO_carry_77 rfl (lv_at hl 8 rfl) ?_
      refine lv_iload_n C.1 C.2.1 d_MO_carry_78 rfl (lv_at hl 7 rfl) ?_
      refine xcVv (rest := []) C hml hl.1 (k_MO_take l D cA b (xu st 0 0 0 0) (f_MO_find (xu st 0 0 0 0) a1) (qok_xu hq (by decide)) (fi_lt (qok_xu hq (by decide)) h1).1 (fi_lt (qok_xu hq (by decide)) h1).2) q_MO_take rfl rfl wg_1179 wg_1181 ws_65 ⟨Nat.le_of_ble_eq_true rfl, Nat.le_of_ble_eq_true rfl⟩ hP hS o_MO rfl c_MO rfl (Nat.le_of_ble_eq_true rfl) d_MO_carry_79 rfl (fun H locs hP hS => ?_)
      refine lv_iload C.1 C.2.1 d_MO_carry_82 (lv_at hl 3 rfl) ?_
      refine lv_aload_n C.1 C.2.1 d_MO_carry_84 rfl (lv_at hl 8 rfl) ?_
      refine xget C hP o_MO rfl c_MO (k := 7) (v := .ref (b + 4)) (by decide) wg_884 rfl d_MO_carry_85 ?_
      refine lv_iload C.1 C.2.1 d_MO_carry_88 (lv_at hl 5 rfl) ?_
      refine xiald C hP om_4 rfl (v := (st 4 ((st 38 ((f_MO_find (xu st 0 0 0 0) a1)).toNatClampNeg 0)).toNatClampNeg 0)) (nok_ix hm ⟨(fi_lt (qok_xu hq (by decide)) h1).1, by have z := (fi_lt (qok_xu hq (by decide)) h1).2; rw [xu_f (by decide)] at z; exact z⟩).1 (congrArg Value.int (Eq.trans (fr_MO_take (by simp) (by decide)) (xu_a (by decide)))) d_MO_carry_90 ?_
      refine lv_icmp_ne (tgt := 98) C.1 C.2.1 d_MO_carry_91 (by decide) (fun h17 => ?_) (fun h17 => ?_)
      · refine lv_iconst (v := 0) C.1 C.2.1 d_MO_carry_98 (by decide) ?_
        refine lv_istore C.1 C.2.1 d_MO_carry_99 hl (by decide) rfl (fun ls hl => ?_)
        have hl : lv_has ls 12 [(11, .int 0), (10, .int (st 43 ((f_MO_find (xu st 0 0 0 0) a1)).toNatClampNeg 0)), (9, .int (st 42 ((f_MO_find (xu st 0 0 0 0) a1)).toNatClampNeg 0)), (8, .int (st 41 ((f_MO_find (xu st 0 0 0 0) a1)).toNatClampNeg 0)), (7, .int (st 40 ((f_MO_find (xu st 0 0 0 0) a1)).toNatClampNeg 0)), (6, .int (st 39 ((f_MO_find (xu st 0 0 0 0) a1)).toNatClampNeg 0)), (5, .int (st 38 ((f_MO_find (xu st 0 0 0 0) a1)).toNatClampNeg 0)), (4, .int (st 37 ((f_MO_find (xu st 0 0 0 0) a1)).toNatClampNeg 0)), (3, .int (f_MO_find (xu st 0 0 0 0) a1)), (0, .ref (b + 0)), (1, .int a1), (2, .int a2)] := hl
        refine lv_iload C.1 C.2.1 d_MO_carry_101 (lv_at hl 7 rfl) ?_
        by_cases h18 : (st 37 ((f_MO_find (xu st 0 0 0 0) a1)).toNatClampNeg 0) = 1
        · refine lv_tableIn (tgt := 136) (off := 33) C.1 C.2.1 d_MO_carry_103 (by rw [h18]; decide) (by rw [h18]; decide) (by rw [h18]; rfl) (by decide) ?_
          refine lv_iload C.1 C.2.1 d_MO_carry_136 (lv_at hl 0 rfl) ?_
          refine lv_if_eq (tgt := 296) C.1 C.2.1 d_MO_carry_138 (by decide) (fun _ => ?_) (fun h => absurd (by decide) h)
          refine lv_aload_n C.1 C.2.1 d_MO_carry_296 rfl (lv_at hl 9 rfl) ?_
          refine xcVv (rest := []) C hml hl.1 (k_MO_settle l D cA b (f_MO_take (xu st 0 0 0 0) (f_MO_find (xu st 0 0 0 0) a1)) (p_MO_take (qok_xu hq (by decide)) (fi_lt (qok_xu hq (by decide)) h1).1 (fi_lt (qok_xu hq (by decide)) h1).2) (cok_of (cok_of hc (fun _ => xu_a (by decide))) (fun _ => fr_MO_take (by simp) (by decide)))) q_MO_settle rfl rfl wg_1119 wg_1121 ws_56 ⟨Nat.le_of_ble_eq_true rfl, Nat.le_of_ble_eq_true rfl⟩ hP hS o_MO rfl c_MO rfl (Nat.le_of_ble_eq_true rfl) d_MO_carry_297 rfl (fun H locs hP hS => ?_)
          refine lv_iconst (v := 1) C.1 C.2.1 d_MO_carry_300 (by decide) ?_
          exact xrz C hlk hr bz_1 hP hS d_MO_carry_301 ⟨by rw [f_MO_carry, if_pos h1, if_pos h2, if_neg h17, if_pos h18], by rw [f_MO_carry, if_pos h1, if_pos h2, if_neg h17, if_pos h18]⟩
        by_cases h19 : (st 37 ((f_MO_find (xu st 0 0 0 0) a1)).toNatClampNeg 0) = 2
        · refine lv_tableIn (tgt := 164) (off := 61) C.1 C.2.1 d_MO_carry_103 (by rw [h19]; decide) (by rw [h19]; decide) (by rw [h19]; rfl) (by decide) ?_
          refine lv_iload C.1 C.2.1 d_MO_carry_164 (lv_at hl 0 rfl) ?_
          refine lv_if_eq (tgt := 296) C.1 C.2.1 d_MO_carry_166 (by decide) (fun _ => ?_) (fun h => absurd (by decide) h)
          refine lv_aload_n C.1 C.2.1 d_MO_carry_296 rfl (lv_at hl 9 rfl) ?_
          refine xcVv (rest := []) C hml hl.1 (k_MO_settle l D cA b (f_MO_take (xu st 0 0 0 0) (f_MO_find (xu st 0 0 0 0) a1)) (p_MO_take (qok_xu hq (by decide)) (fi_lt (qok_xu hq (by decide)) h1).1 (fi_lt (qok_xu hq (by decide)) h1).2) (cok_of (cok_of hc (fun _ => xu_a (by decide))) (fun _ => fr_MO_take (by simp) (by decide)))) q_MO_settle rfl rfl wg_1119 wg_1121 ws_56 ⟨Nat.le_of_ble_eq_true rfl, Nat.le_of_ble_eq_true rfl⟩ hP hS o_MO rfl c_MO rfl (Nat.le_of_ble_eq_true rfl) d_MO_carry_297 rfl (fun H locs hP hS => ?_)
          refine lv_iconst (v := 1) C.1 C.2.1 d_MO_carry_300 (by decide) ?_
          exact xrz C hlk hr bz_1 hP hS d_MO_carry_301 ⟨by rw [f_MO_carry, if_pos h1, if_pos h2, if_neg h17, if_neg h18, if_pos h19], by rw [f_MO_carry, if_pos h1, if_pos h2, if_neg h17, if_neg h18, if_pos h19]⟩
        by_cases h20 : (st 37 ((f_MO_find (xu st 0 0 0 0) a1)).toNatClampNeg 0) = 3
        · refine lv_tableIn (tgt := 188) (off := 85) C.1 C.2.1 d_MO_carry_103 (by rw [h20]; decide) (by rw [h20]; decide) (by rw [h20]; rfl) (by decide) ?_
          refine lv_aload_n C.1 C.2.1 d_MO_carry_188 rfl (lv_at hl 9 rfl) ?_
          refine xget C hP o_MO rfl c_MO (k := 18) (v := .ref (b + 15)) (by decide) wg_895 rfl d_MO_carry_189 ?_
          refine lv_iload C.1 C.2.1 d_MO_carry_192 (lv_at hl 6 rfl) ?_
          refine lv_iload C.1 C.2.1 d_MO_carry_194 (lv_at hl 0 rfl) ?_
          refine lv_if_eq (tgt := 206) C.1 C.2.1 d_MO_carry_196 (by decide) (fun _ => ?_) (fun h => absurd (by decide) h)
          refine lv_aload_n C.1 C.2.1 d_MO_carry_206 rfl (lv_at hl 9 rfl) ?_
          refine xget C hP o_MO rfl c_MO (k := 18) (v := .ref (b + 15)) (by decide) wg_895 rfl d_MO_carry_207 ?_
          refine lv_iload C.1 C.2.1 d_MO_carry_210 (lv_at hl 6 rfl) ?_
          refine xiald C hP om_15 rfl (v := (st 15 ((st 38 ((f_MO_find (xu st 0 0 0 0) a1)).toNatClampNeg 0)).toNatClampNeg 0)) (nok_ix hm ⟨(fi_lt (qok_xu hq (by decide)) h1).1, by have z := (fi_lt (qok_xu hq (by decide)) h1).2; rw [xu_f (by decide)] at z; exact z⟩).1 (congrArg Value.int (Eq.trans (fr_MO_take (by simp) (by decide)) (xu_a (by decide)))) d_MO_carry_212 ?_
          refine xiast mw_inj C hP hS om_15 rfl (nok_ix hm ⟨(fi_lt (qok_xu hq (by decide)) h1).1, by have z := (fi_lt (qok_xu hq (by decide)) h1).2; rw [xu_f (by decide)] at z; exact z⟩).1 rfl d_MO_carry_213 (fun H locs hP hS => ?_)
          refine lv_goto (tgt := 296) C.1 C.2.1 d_MO_carry_214 (by decide) ?_
          refine lv_aload_n C.1 C.2.1 d_MO_carry_296 rfl (lv_at hl 9 rfl) ?_
          refine xcVv (rest := []) C hml hl.1 (k_MO_settle l D cA b (xu (f_MO_take (xu st 0 0 0 0) (f_MO_find (xu st 0 0 0 0) a1)) 15 ((st 38 ((f_MO_find (xu st 0 0 0 0) a1)).toNatClampNeg 0)).toNatClampNeg 0 (st 15 ((st 38 ((f_MO_find (xu st 0 0 0 0) a1)).toNatClampNeg 0)).toNatClampNeg 0)) (qok_xa (p_MO_take (qok_xu hq (by decide)) (fi_lt (qok_xu hq (by decide)) h1).1 (fi_lt (qok_xu hq (by decide)) h1).2) (by decide)) (cok_of (cok_of (cok_of hc (fun _ => xu_a (by decide))) (fun _ => fr_MO_take (by simp) (by decide))) (fun _ => xu_a (by decide)))) q_MO_settle rfl rfl wg_1119 wg_1121 ws_56 ⟨Nat.le_of_ble_eq_true rfl, Nat.le_of_ble_eq_true rfl⟩ hP hS o_MO rfl c_MO rfl (Nat.le_of_ble_eq_true rfl) d_MO_carry_297 rfl (fun H locs hP hS => ?_)
          refine lv_iconst (v := 1) C.1 C.2.1 d_MO_carry_300 (by decide) ?_
          exact xrz C hlk hr bz_1 hP hS d_MO_carry_301 ⟨by rw [f_MO_carry, if_pos h1, if_pos h2, if_neg h17, if_neg h18, if_neg h19, if_pos h20], by rw [f_MO_carry, if_pos h1, if_pos h2, if_neg h17, if_neg h18, if_neg h19, if_pos h20]⟩
        by_cases h21 : (st 37 ((f_MO_find (xu st 0 0 0 0) a1)).toNatClampNeg 0) = 4
        · refine lv_tableIn (tgt := 217) (off := 114) C.1 C.2.1 d_MO_carry_103 (by rw [h21]; decide) (by rw [h21]; decide) (by rw [h21]; rfl) (by decide) ?_
          refine lv_aload_n C.1 C.2.1 d_MO_carry_217 rfl (lv_at hl 9 rfl) ?_
          refine xget C hP o_MO rfl c_MO (k := 34) (v := .ref (b + 31)) (by decide) wg_911 rfl d_MO_carry_218 ?_
          refine lv_iconst (v := 4) C.1 C.2.1 d_MO_carry_221 (by decide) ?_
          refine lv_iload C.1 C.2.1 d_MO_carry_222 (lv_at hl 6 rfl) ?_
          refine lv_imul C.1 C.2.1 d_MO_carry_224 ?_
          refine lv_iload C.1 C.2.1 d_MO_carry_225 (lv_at hl 5 rfl) ?_
          refine lv_iadd C.1 C.2.1 d_MO_carry_227 ?_
          refine lv_aload_n C.1 C.2.1 d_MO_carry_228 rfl (lv_at hl 9 rfl) ?_
          refine xget C hP o_MO rfl c_MO (k := 34) (v := .ref (b + 31)) (by decide) wg_911 rfl d_MO_carry_229 ?_
          refine lv_iconst (v := 4) C.1 C.2.1 d_MO_carry_232 (by decide) ?_
          refine lv_iload C.1 C.2.1 d_MO_carry_233 (lv_at hl 6 rfl) ?_
          refine lv_imul C.1 C.2.1 d_MO_carry_235 ?_
          refine lv_iload C.1 C.2.1 d_MO_carry_236 (lv_at hl 5 rfl) ?_
          refine lv_iadd C.1 C.2.1 d_MO_carry_238 ?_
          refine xzald C hP om_31 rfl (v := (bz (st 31 (((4 * (st 38 ((f_MO_find (xu st 0 0 0 0) a1)).toNatClampNeg 0)) + (st 39 ((f_MO_find (xu st 0 0 0 0) a1)).toNatClampNeg 0))).toNatClampNeg 0))) (ix4 (nok_ix hm ⟨(fi_lt (qok_xu hq (by decide)) h1).1, by have z := (fi_lt (qok_xu hq (by decide)) h1).2; rw [xu_f (by decide)] at z; exact z⟩).1 ((nok_ix hm ⟨(fi_lt (qok_xu hq (by decide)) h1).1, by have z := (fi_lt (qok_xu hq (by decide)) h1).2; rw [xu_f (by decide)] at z; exact z⟩).2.1 (Or.inr (Or.inr h21)))) (congrArg (fun z => Value.int (bz z)) (Eq.trans (fr_MO_take (by simp) (by decide)) (xu_a (by decide)))) d_MO_carry_239 ?_
          refine lv_if_ne (tgt := 263) C.1 C.2.1 d_MO_carry_240 (by decide) (fun h22 => ?_) (fun h22 => ?_)
          · refine lv_iconst (v := 1) C.1 C.2.1 d_MO_carry_263 (by decide) ?_
            refine lv_goto (tgt := 268) C.1 C.2.1 d_MO_carry_264 (by decide) ?_
            refine xzast mw_inj C hP hS om_31 rfl (ix4 (nok_ix hm ⟨(fi_lt (qok_xu hq (by decide)) h1).1, by have z := (fi_lt (qok_xu hq (by decide)) h1).2; rw [xu_f (by decide)] at z; exact z⟩).1 ((nok_ix hm ⟨(fi_lt (qok_xu hq (by decide)) h1).1, by have z := (fi_lt (qok_xu hq (by decide)) h1).2; rw [xu_f (by decide)] at z; exact z⟩).2.1 (Or.inr (Or.inr h21)))) rfl d_MO_carry_268 (fun H locs hP hS => ?_)
            refine lv_goto (tgt := 296) C.1 C.2.1 d_MO_carry_269 (by decide) ?_
            refine lv_aload_n C.1 C.2.1 d_MO_carry_296 rfl (lv_at hl 9 rfl) ?_
            refine xcVv (rest := []) C hml hl.1 (k_MO_settle l D cA b (xu (f_MO_take (xu st 0 0 0 0) (f_MO_find (xu st 0 0 0 0) a1)) 31 (((4 * (st 38 ((f_MO_find (xu st 0 0 0 0) a1)).toNatClampNeg 0)) + (st 39 ((f_MO_find (xu st 0 0 0 0) a1)).toNatClampNeg 0))).toNatClampNeg 0 1) (qok_xa (p_MO_take (qok_xu hq (by decide)) (fi_lt (qok_xu hq (by decide)) h1).1 (fi_lt (qok_xu hq (by decide)) h1).2) (by decide)) (cok_of (cok_of (cok_of hc (fun _ => xu_a (by decide))) (fun _ => fr_MO_take (by simp) (by decide))) (fun _ => xu_a (by decide)))) q_MO_settle rfl rfl wg_1119 wg_1121 ws_56 ⟨Nat.le_of_ble_eq_true rfl, Nat.le_of_ble_eq_true rfl⟩ hP hS o_MO rfl c_MO rfl (Nat.le_of_ble_eq_true rfl) d_MO_carry_297 rfl (fun H locs hP hS => ?_)
            refine lv_iconst (v := 1) C.1 C.2.1 d_MO_carry_300 (by decide) ?_
            exact xrz C hlk hr bz_1 hP hS d_MO_carry_301 ⟨by rw [f_MO_carry, if_pos h1, if_pos h2, if_neg h17, if_neg h18, if_neg h19, if_neg h20, if_pos h21, if_neg h22], by rw [f_MO_carry, if_pos h1, if_pos h2, if_neg h17, if_neg h18, if_neg h19, if_neg h20, if_pos h21, if_neg h22]⟩
          · refine lv_iload C.1 C.2.1 d_MO_carry_243 (lv_at hl 0 rfl) ?_
            refine lv_if_eq (tgt := 267) C.1 C.2.1 d_MO_carry_245 (by decide) (fun _ => ?_) (fun h => absurd (by decide) h)
            refine lv_iconst (v := 0) C.1 C.2.1 d_MO_carry_267 (by decide) ?_
            refine xzast mw_inj C hP hS om_31 rfl (ix4 (nok_ix hm ⟨(fi_lt (qok_xu hq (by decide)) h1).1, by have z := (fi_lt (qok_xu hq (by decide)) h1).2; rw [xu_f (by decide)] at z; exact z⟩).1 ((nok_ix hm ⟨(fi_lt (qok_xu hq (by decide)) h1).1, by have z := (fi_lt (qok_xu hq (by decide)) h1).2; rw [xu_f (by decide)] at z; exact z⟩).2.1 (Or.inr (Or.inr h21)))) rfl d_MO_carry_268 (fun H locs hP hS => ?_)
            refine lv_goto (tgt := 296) C.1 C.2.1 d_MO_carry_269 (by decide) ?_
            refine lv_aload_n C.1 C.2.1 d_MO_carry_296 rfl (lv_at hl 9 rfl) ?_
            refine xcVv (rest := []) C hml hl.1 (k_MO_settle l D cA b (xu (f_MO_take (xu st 0 0 0 0) (f_MO_find (xu st 0 0 0 0) a1)) 31 (((4 * (st 38 ((f_MO_find (xu st 0 0 0 0) a1)).toNatClampNeg 0)) + (st 39 ((f_MO_find (xu st 0 0 0 0) a1)).toNatClampNeg 0))).toNatClampNeg 0 0) (qok_xa (p_MO_take (qok_xu hq (by decide)) (fi_lt (qok_xu hq (by decide)) h1).1 (fi_lt (qok_xu hq (by decide)) h1).2) (by decide)) (cok_of (cok_of (cok_of hc (fun _ => xu_a (by decide))) (fun _ => fr_MO_take (by simp) (by decide))) (fun _ => xu_a (by decide)))) q_MO_settle rfl rfl wg_1119 wg_1121 ws_56 ⟨Nat.le_of_ble_eq_true rfl, Nat.le_of_ble_eq_true rfl⟩ hP hS o_MO rfl c_MO rfl (Nat.le_of_ble_eq_true rfl) d_MO_carry_297 rfl (fun H locs hP hS => ?_)
            refine lv_iconst (v := 1) C.1 C.2.1 d_MO_carry_300 (by decide) ?_
            exact xrz C hlk hr bz_1 hP hS d_MO_carry_301 ⟨by rw [f_MO_carry, if_pos h1, if_pos h2, if_neg h17, if_neg h18, if_neg h19, if_neg h20, if_pos h21, if_pos h22], by rw [f_MO_carry, if_pos h1, if_pos h2, if_neg h17, if_neg h18, if_neg h19, if_neg h20, if_pos h21, if_pos h22]⟩
        by_cases h23 : (st 37 ((f_MO_find (xu st 0 0 0 0) a1)).toNatClampNeg 0) = 5
        · refine lv_tableIn (tgt := 272) (off := 169) C.1 C.2.1 d_MO_carry_103 (by rw [h23]; decide) (by rw [h23]; decide) (by rw [h23]; rfl) (by decide) ?_
          refine lv_aload_n C.1 C.2.1 d_MO_carry_272 rfl (lv_at hl 9 rfl) ?_
          refine lv_iload C.1 C.2.1 d_MO_carry_273 (lv_at hl 6 rfl) ?_
          refine lv_iload C.1 C.2.1 d_MO_carry_275 (lv_at hl 5 rfl) ?_
          refine lv_iload C.1 C.2.1 d_MO_carry_277 (lv_at hl 4 rfl) ?_
          refine xcVv (rest := []) C hml hl.1 (k_MO_orders l D cA b (f_MO_take (xu st 0 0 0 0) (f_MO_find (xu st 0 0 0 0) a1)) (st 38 ((f_MO_find (xu st 0 0 0 0) a1)).toNatClampNeg 0) (st 39 ((f_MO_find (xu st 0 0 0 0) a1)).toNatClampNeg 0) (st 40 ((f_MO_find (xu st 0 0 0 0) a1)).toNatClampNeg 0) (p_MO_take (qok_xu hq (by decide)) (fi_lt (qok_xu hq (by decide)) h1).1 (fi_lt (qok_xu hq (by decide)) h1).2) (nok_ix hm ⟨(fi_lt (qok_xu hq (by decide)) h1).1, by have z := (fi_lt (qok_xu hq (by decide)) h1).2; rw [xu_f (by decide)] at z; exact z⟩).1 ((nok_ix hm ⟨(fi_lt (qok_xu hq (by decide)) h1).1, by have z := (fi_lt (qok_xu hq (by decide)) h1).2; rw [xu_f (by decide)] at z; exact z⟩).2.2.1 h18 h19 h20 h21) (by rw [fr_MO_take (by simp) (by decide), xu_a (by decide)]; exact ((nok_ix hm ⟨(fi_lt (qok_xu hq (by decide)) h1).1, by have z := (fi_lt (qok_xu hq (by decide)) h1).2; rw [xu_f (by decide)] at z; exact z⟩).2.2.2 h23))) q_MO_orders rfl rfl wg_1191 wg_1193 ws_68 ⟨Nat.le_of_ble_eq_true rfl, Nat.le_of_ble_eq_true rfl⟩ hP hS o_MO rfl c_MO rfl (Nat.le_of_ble_eq_true rfl) d_MO_carry_279 rfl (fun H locs hP hS => ?_)
          refine lv_goto (tgt := 296) C.1 C.2.1 d_MO_carry_282 (by decide) ?_
          refine lv_aload_n C.1 C.2.1 d_MO_carry_296 rfl (lv_at hl 9 rfl) ?_
          refine xcVv (rest := []) C hml hl.1 (k_MO_settle l D cA b (f_MO_orders (f_MO_take (xu st 0 0 0 0) (f_MO_find (xu st 0 0 0 0) a1)) (st 38 ((f_MO_find (xu st 0 0 0 0) a1)).toNatClampNeg 0) (st 39 ((f_MO_find (xu st 0 0 0 0) a1)).toNatClampNeg 0) (st 40 ((f_MO_find (xu st 0 0 0 0) a1)).toNatClampNeg 0)) (p_MO_orders (p_MO_take (qok_xu hq (by decide)) (fi_lt (qok_xu hq (by decide)) h1).1 (fi_lt (qok_xu hq (by decide)) h1).2)) (cok_of (cok_of (cok_of hc (fun _ => xu_a (by decide))) (fun _ => fr_MO_take (by simp) (by decide))) (fun _ => fr_MO_orders (by simp) (by decide)))) q_MO_settle rfl rfl wg_1119 wg_1121 ws_56 ⟨Nat.le_of_ble_eq_true rfl, Nat.le_of_ble_eq_true rfl⟩ hP hS o_MO rfl c_MO rfl (Nat.le_of_ble_eq_true rfl) d_MO_carry_297 rfl (fun H locs hP hS => ?_)
          refine lv_iconst (v := 1) C.1 C.2.1 d_MO_carry_300 (by decide) ?_
          exact xrz C hlk hr bz_1 hP hS d_MO_carry_301 ⟨by rw [f_MO_carry, if_pos h1, if_pos h2, if_neg h17, if_neg h18, if_neg h19, if_neg h20, if_neg h21, if_pos h23], by rw [f_MO_carry, if_pos h1, if_pos h2, if_neg h17, if_neg h18, if_neg h19, if_neg h20, if_neg h21, if_pos h23]⟩
        refine lv_tableOut (tgt := 285) C.1 C.2.1 d_MO_carry_103 (by have eh18 := lv_neT h18 (a := 1) (by decide); have eh19 := lv_neT h19 (a := 2) (by decide); have eh20 := lv_neT h20 (a := 3) (by decide); have eh21 := lv_neT h21 (a := 4) (by decide); have eh23 := lv_neT h23 (a := 5) (by decide); omega) (by decide) ?_
        refine lv_aload_n C.1 C.2.1 d_MO_carry_285 rfl (lv_at hl 9 rfl) ?_
        refine xget C hP o_MO rfl c_MO (k := 61) (v := .ref (b + 55)) (by decide) wg_938 rfl d_MO_carry_286 ?_
        refine lv_iload C.1 C.2.1 d_MO_carry_289 (lv_at hl 5 rfl) ?_
        refine lv_iconst (v := 1) C.1 C.2.1 d_MO_carry_291 (by decide) ?_
        refine lv_iload C.1 C.2.1 d_MO_carry_292 (lv_at hl 3 rfl) ?_
        refine lv_iadd C.1 C.2.1 d_MO_carry_294 ?_
        refine xiast mw_inj C hP hS om_55 rfl ((nok_ix hm ⟨(fi_lt (qok_xu hq (by decide)) h1).1, by have z := (fi_lt (qok_xu hq (by decide)) h1).2; rw [xu_f (by decide)] at z; exact z⟩).2.2.1 h18 h19 h20 h21) rfl d_MO_carry_295 (fun H locs hP hS => ?_)
        refine lv_aload_n C.1 C.2.1 d_MO_carry_296 rfl (lv_at hl 9 rfl) ?_
        refine xcVv (rest := []) C hml hl.1 (k_MO_settle l D cA b (xu (f_MO_take (xu st 0 0 0 0) (f_MO_find (xu st 0 0 0 0) a1)) 55 ((st 39 ((f_MO_find (xu st 0 0 0 0) a1)).toNatClampNeg 0)).toNatClampNeg 0 (1 + (st 41 ((f_MO_find (xu st 0 0 0 0) a1)).toNatClampNeg 0))) (qok_xa (p_MO_take (qok_xu hq (by decide)) (fi_lt (qok_xu hq (by decide)) h1).1 (fi_lt (qok_xu hq (by decide)) h1).2) (by decide)) (cok_of (cok_of (cok_of hc (fun _ => xu_a (by decide))) (fun _ => fr_MO_take (by simp) (by decide))) (fun _ => xu_a (by decide)))) q_MO_settle rfl rfl wg_1119 wg_1121 ws_56 ⟨Nat.le_of_ble_eq_true rfl, Nat.le_of_ble_eq_true rfl⟩ hP hS o_MO rfl c_MO rfl (Nat.le_of_ble_eq_true rfl) d_MO_carry_297 rfl (fun H locs hP hS => ?_)
        refine lv_iconst (v := 1) C.1 C.2.1 d_MO_carry_300 (by decide) ?_
        exact xrz C hlk hr bz_1 hP hS d_MO_carry_301 ⟨by rw [f_MO_carry, if_pos h1, if_pos h2, if_neg h17, if_neg h18, if_neg h19, if_neg h20, if_neg h21, if_neg h23], by rw [f_MO_carry, if_pos h1, if_pos h2, if_neg h17, if_neg h18, if_neg h19, if_neg h20, if_neg h21, if_neg h23]⟩
      · refine lv_iconst (v := 1) C.1 C.2.1 d_MO_carry_94 (by decide) ?_
        refine lv_goto (tgt := 99) C.1 C.2.1 d_MO_carry_95 (by decide) ?_
        refine lv_istore C.1 C.2.1 d_MO_carry_99 hl (by decide) rfl (fun ls hl => ?_)
        have hl : lv_has ls 12 [(11, .int 1), (10, .int (st 43 ((f_MO_find (xu st 0 0 0 0) a1)).toNatClampNeg 0)), (9, .int (st 42 ((f_MO_find (xu st 0 0 0 0) a1)).toNatClampNeg 0)), (8, .int (st 41 ((f_MO_find (xu st 0 0 0 0) a1)).toNatClampNeg 0)), (7, .int (st 40 ((f_MO_find (xu st 0 0 0 0) a1)).toNatClampNeg 0)), (6, .int (st 39 ((f_MO_find (xu st 0 0 0 0) a1)).toNatClampNeg 0)), (5, .int (st 38 ((f_MO_find (xu st 0 0 0 0) a1)).toNatClampNeg 0)), (4, .int (st 37 ((f_MO_find (xu st 0 0 0 0) a1)).toNatClampNeg 0)), (3, .int (f_MO_find (xu st 0 0 0 0) a1)), (0, .ref (b + 0)), (1, .int a1), (2, .int a2)] := hl
        refine lv_iload C.1 C.2.1 d_MO_carry_101 (lv_at hl 7 rfl) ?_
        by_cases h24 : (st 37 ((f_MO_find (xu st 0 0 0 0) a1)).toNatClampNeg 0) = 1
        · refine lv_tableIn (tgt := 136) (off := 33) C.1 C.2.1 d_MO_carry_103 (by rw [h24]; decide) (by rw [h24]; decide) (by rw [h24]; rfl) (by decide) ?_
          refine lv_iload C.1 C.2.1 d_MO_carry_136 (lv_at hl 0 rfl) ?_
          refine lv_if_eq (tgt := 296) C.1 C.2.1 d_MO_carry_138 (by decide) (fun h => absurd h (by decide)) (fun _ => ?_)
          refine lv_aload_n C.1 C.2.1 d_MO_carry_141 rfl (lv_at hl 9 rfl) ?_
          refine lv_iload_n C.1 C.2.1 d_MO_carry_142 rfl (lv_at hl 10 rfl) ?_
          refine lv_iconst (v := 4) C.1 C.2.1 d_MO_carry_143 (by decide) ?_
          refine lv_iload C.1 C.2.1 d_MO_carry_144 (lv_at hl 6 rfl) ?_
          refine lv_imul C.1 C.2.1 d_MO_carry_146 ?_
          refine lv_iload C.1 C.2.1 d_MO_carry_147 (lv_at hl 5 rfl) ?_
          refine lv_iadd C.1 C.2.1 d_MO_carry_149 ?_
          refine lv_iload C.1 C.2.1 d_MO_carry_150 (lv_at hl 4 rfl) ?_
          refine lv_iload C.1 C.2.1 d_MO_carry_152 (lv_at hl 3 rfl) ?_
          refine lv_iload C.1 C.2.1 d_MO_carry_154 (lv_at hl 2 rfl) ?_
          refine lv_iload C.1 C.2.1 d_MO_carry_156 (lv_at hl 1 rfl) ?_
          refine xcVv (rest := []) C hml hl.1 (k_MO_shows l D cA b (f_MO_take (xu st 0 0 0 0) (f_MO_find (xu st 0 0 0 0) a1)) a1 ((4 * (st 38 ((f_MO_find (xu st 0 0 0 0) a1)).toNatClampNeg 0)) + (st 39 ((f_MO_find (xu st 0 0 0 0) a1)).toNatClampNeg 0)) (st 40 ((f_MO_find (xu st 0 0 0 0) a1)).toNatClampNeg 0) (st 41 ((f_MO_find (xu st 0 0 0 0) a1)).toNatClampNeg 0) (st 42 ((f_MO_find (xu st 0 0 0 0) a1)).toNatClampNeg 0) (st 43 ((f_MO_find (xu st 0 0 0 0) a1)).toNatClampNeg 0) (by rw [fr_MO_take (by decide) (by decide), xu_f (by decide)]; exact hh)) q_MO_shows rfl rfl wg_1183 wg_1185 ws_66 ⟨Nat.le_of_ble_eq_true rfl, Nat.le_of_ble_eq_true rfl⟩ hP hS o_MO rfl c_MO rfl (Nat.le_of_ble_eq_true rfl) d_MO_carry_158 rfl (fun H locs hP hS => ?_)
          refine lv_goto (tgt := 296) C.1 C.2.1 d_MO_carry_161 (by decide) ?_
          refine lv_aload_n C.1 C.2.1 d_MO_carry_296 rfl (lv_at hl 9 rfl) ?_
          refine xcVv (rest := []) C hml hl.1 (k_MO_settle l D cA b (f_MO_shows (f_MO_take (xu st 0 0 0 0) (f_MO_find (xu st 0 0 0 0) a1)) a1 ((4 * (st 38 ((f_MO_find (xu st 0 0 0 0) a1)).toNatClampNeg 0)) + (st 39 ((f_MO_find (xu st 0 0 0 0) a1)).toNatClampNeg 0)) (st 40 ((f_MO_find (xu st 0 0 0 0) a1)).toNatClampNeg 0) (st 41 ((f_MO_find (xu st 0 0 0 0) a1)).toNatClampNeg 0) (st 42 ((f_MO_find (xu st 0 0 0 0) a1)).toNatClampNeg 0) (st 43 ((f_MO_find (xu st 0 0 0 0) a1)).toNatClampNeg 0)) (qok_of (p_MO_take (qok_xu hq (by decide)) (fi_lt (qok_xu hq (by decide)) h1).1 (fi_lt (qok_xu hq (by decide)) h1).2) (fr_MO_shows (by decide) (by decide))) (cok_of (cok_of (cok_of hc (fun _ => xu_a (by decide))) (fun _ => fr_MO_take (by simp) (by decide))) (fun _ => fr_MO_shows (by simp) (by decide)))) q_MO_settle rfl rfl wg_1119 wg_1121 ws_56 ⟨Nat.le_of_ble_eq_true rfl, Nat.le_of_ble_eq_true rfl⟩ hP hS o_MO rfl c_MO rfl (Nat.le_of_ble_eq_true rfl) d_MO_carry_297 rfl (fun H locs hP hS => ?_)
          refine lv_iconst (v := 1) C.1 C.2.1 d_MO_carry_300 (by decide) ?_
          exact xrz C hlk hr bz_1 hP hS d_MO_carry_301 ⟨by rw [f_MO_carry, if_pos h1, if_pos h2, if_pos h17, if_pos h24], by rw [f_MO_carry, if_pos h1, if_pos h2, if_pos h17, if_pos h24]⟩
        by_cases h25 : (st 37 ((f_MO_find (xu st 0 0 0 0) a1)).toNatClampNeg 0) = 2
        · refine lv_tableIn (tgt := 164) (off := 61) C.1 C.2.1 d_MO_carry_103 (by rw [h25]; decide) (by rw [h25]; decide) (by rw [h25]; rfl) (by decide) ?_
          refine lv_iload C.1 C.2.1 d_MO_carry_164 (lv_at hl 0 rfl) ?_
          refine lv_if_eq (tgt := 296) C.1 C.2.1 d_MO_carry_166 (by decide) (fun h => absurd h (by decide)) (fun _ => ?_)
          refine lv_aload_n C.1 C.2.1 d_MO_carry_169 rfl (lv_at hl 9 rfl) ?_
          refine lv_iload_n C.1 C.2.1 d_MO_carry_170 rfl (lv_at hl 10 rfl) ?_
          refine lv_iload C.1 C.2.1 d_MO_carry_171 (lv_at hl 6 rfl) ?_
          refine lv_iconst (v := 4) C.1 C.2.1 d_MO_carry_173 (by decide) ?_
          refine lv_iload C.1 C.2.1 d_MO_carry_174 (lv_at hl 6 rfl) ?_
          refine lv_imul C.1 C.2.1 d_MO_carry_176 ?_
          refine lv_iload C.1 C.2.1 d_MO_carry_177 (lv_at hl 5 rfl) ?_
          refine lv_iadd C.1 C.2.1 d_MO_carry_179 ?_
          refine lv_iload C.1 C.2.1 d_MO_carry_180 (lv_at hl 3 rfl) ?_
          refine xcVv (rest := []) C hml hl.1 (k_MO_knows l D cA b (f_MO_take (xu st 0 0 0 0) (f_MO_find (xu st 0 0 0 0) a1)) a1 (st 38 ((f_MO_find (xu st 0 0 0 0) a1)).toNatClampNeg 0) ((4 * (st 38 ((f_MO_find (xu st 0 0 0 0) a1)).toNatClampNeg 0)) + (st 39 ((f_MO_find (xu st 0 0 0 0) a1)).toNatClampNeg 0)) (st 41 ((f_MO_find (xu st 0 0 0 0) a1)).toNatClampNeg 0) (p_MO_take (qok_xu hq (by decide)) (fi_lt (qok_xu hq (by decide)) h1).1 (fi_lt (qok_xu hq (by decide)) h1).2) (nok_ix hm ⟨(fi_lt (qok_xu hq (by decide)) h1).1, by have z := (fi_lt (qok_xu hq (by decide)) h1).2; rw [xu_f (by decide)] at z; exact z⟩).1 (ix4 (nok_ix hm ⟨(fi_lt (qok_xu hq (by decide)) h1).1, by have z := (fi_lt (qok_xu hq (by decide)) h1).2; rw [xu_f (by decide)] at z; exact z⟩).1 ((nok_ix hm ⟨(fi_lt (qok_xu hq (by decide)) h1).1, by have z := (fi_lt (qok_xu hq (by decide)) h1).2; rw [xu_f (by decide)] at z; exact z⟩).2.1 (Or.inr (Or.inl h25))))) q_MO_knows rfl rfl wg_1187 wg_1189 ws_67 ⟨Nat.le_of_ble_eq_true rfl, Nat.le_of_ble_eq_true rfl⟩ hP hS o_MO rfl c_MO rfl (Nat.le_of_ble_eq_true rfl) d_MO_carry_182 rfl (fun H locs hP hS => ?_)
          refine lv_goto (tgt := 296) C.1 C.2.1 d_MO_carry_185 (by decide) ?_
          refine lv_aload_n C.1 C.2.1 d_MO_carry_296 rfl (lv_at hl 9 rfl) ?_
          refine xcVv (rest := []) C hml hl.1 (k_MO_settle l D cA b (f_MO_knows (f_MO_take (xu st 0 0 0 0) (f_MO_find (xu st 0 0 0 0) a1)) a1 (st 38 ((f_MO_find (xu st 0 0 0 0) a1)).toNatClampNeg 0) ((4 * (st 38 ((f_MO_find (xu st 0 0 0 0) a1)).toNatClampNeg 0)) + (st 39 ((f_MO_find (xu st 0 0 0 0) a1)).toNatClampNeg 0)) (st 41 ((f_MO_find (xu st 0 0 0 0) a1)).toNatClampNeg 0)) (p_MO_knows (p_MO_take (qok_xu hq (by decide)) (fi_lt (qok_xu hq (by decide)) h1).1 (fi_lt (qok_xu hq (by decide)) h1).2)) (cok_of (cok_of (cok_of hc (fun _ => xu_a (by decide))) (fun _ => fr_MO_take (by simp) (by decide))) (fun _ => fr_MO_knows (by simp) (by decide)))) q_MO_settle rfl rfl wg_1119 wg_1121 ws_56 ⟨Nat.le_of_ble_eq_true rfl, Nat.le_of_ble_eq_true rfl⟩ hP hS o_MO rfl c_MO rfl (Nat.le_of_ble_eq_true rfl) d_MO_carry_297 rfl (fun H locs hP hS => ?_)
          refine lv_iconst (v := 1) C.1 C.2.1 d_MO_carry_300 (by decide) ?_
          exact xrz C hlk hr bz_1 hP hS d_MO_carry_301 ⟨by rw [f_MO_carry, if_pos h1, if_pos h2, if_pos h17, if_neg h24, if_pos h25], by rw [f_MO_carry, if_pos h1, if_pos h2, if_pos h17, if_neg h24, if_pos h25]⟩
        by_cases h26 : (st 37 ((f_MO_find (xu st 0 0 0 0) a1)).toNatClampNeg 0) = 3
        · refine lv_tableIn (tgt := 188) (off := 85) C.1 C.2.1 d_MO_carry_103 (by rw [h26]; decide) (by rw [h26]; decide) (by rw [h26]; rfl) (by decide) ?_
          refine lv_aload_n C.1 C.2.1 d_MO_carry_188 rfl (lv_at hl 9 rfl) ?_
          refine xget C hP o_MO rfl c_MO (k := 18) (v := .ref (b + 15)) (by decide) wg_895 rfl d_MO_carry_189 ?_
          refine lv_iload C.1 C.2.1 d_MO_carry_192 (lv_at hl 6 rfl) ?_
          refine lv_iload C.1 C.2.1 d_MO_carry_194 (lv_at hl 0 rfl) ?_
          refine lv_if_eq (tgt := 206) C.1 C.2.1 d_MO_carry_196 (by decide) (fun h => absurd h (by decide)) (fun _ => ?_)
          refine lv_aload_n C.1 C.2.1 d_MO_carry_199 rfl (lv_at hl 9 rfl) ?_
          refine xget C hP o_MO rfl c_MO (k := 1) (v := .int (st 0 1 0)) (by decide) wg_878 (congrArg Value.int (Eq.trans (fr_MO_take (by decide) (by decide)) (xu_f (by decide)))) d_MO_carry_200 ?_
          refine lv_goto (tgt := 213) C.1 C.2.1 d_MO_carry_203 (by decide) ?_
          refine xiast mw_inj C hP hS om_15 rfl (nok_ix hm ⟨(fi_lt (qok_xu hq (by decide)) h1).1, by have z := (fi_lt (qok_xu hq (by decide)) h1).2; rw [xu_f (by decide)] at z; exact z⟩).1 rfl d_MO_carry_213 (fun H locs hP hS => ?_)
          refine lv_goto (tgt := 296) C.1 C.2.1 d_MO_carry_214 (by decide) ?_
          refine lv_aload_n C.1 C.2.1 d_MO_carry_296 rfl (lv_at hl 9 rfl) ?_
          refine xcVv (rest := []) C hml hl.1 (k_MO_settle l D cA b (xu (f_MO_take (xu st 0 0 0 0) (f_MO_find (xu st 0 0 0 0) a1)) 15 ((st 38 ((f_MO_find (xu st 0 0 0 0) a1)).toNatClampNeg 0)).toNatClampNeg 0 (st 0 1 0)) (qok_xa (p_MO_take (qok_xu hq (by decide)) (fi_lt (qok_xu hq (by decide)) h1).1 (fi_lt (qok_xu hq (by decide)) h1).2) (by decide)) (cok_of (cok_of (cok_of hc (fun _ => xu_a (by decide))) (fun _ => fr_MO_take (by simp) (by decide))) (fun _ => xu_a (by decide)))) q_MO_settle rfl rfl wg_1119 wg_1121 ws_56 ⟨Nat.le_of_ble_eq_true rfl, Nat.le_of_ble_eq_true rfl⟩ hP hS o_MO rfl c_MO rfl (Nat.le_of_ble_eq_true rfl) d_MO_carry_297 rfl (fun H locs hP hS => ?_)
          refine lv_iconst (v := 1) C.1 C.2.1 d_MO_carry_300 (by decide) ?_
          exact xrz C hlk hr bz_1 hP hS d_MO_carry_301 ⟨by rw [f_MO_carry, if_pos h1, if_pos h2, if_pos h17, if_neg h24, if_neg h25, if_pos h26], by rw [f_MO_carry, if_pos h1, if_pos h2, if_pos h17, if_neg h24, if_neg h25, if_pos h26]⟩
        by_cases h27 : (st 37 ((f_MO_find (xu st 0 0 0 0) a1)).toNatClampNeg 0) = 4
        · refine lv_tableIn (tgt := 217) (off := 114) C.1 C.2.1 d_MO_carry_103 (by rw [h27]; decide) (by rw [h27]; decide) (by rw [h27]; rfl) (by decide) ?_
          refine lv_aload_n C.1 C.2.1 d_MO_carry_217 rfl (lv_at hl 9 rfl) ?_
          refine xget C hP o_MO rfl c_MO (k := 34) (v := .ref (b + 31)) (by decide) wg_911 rfl d_MO_carry_218 ?_
          refine lv_iconst (v := 4) C.1 C.2.1 d_MO_carry_221 (by decide) ?_
          refine lv_iload C.1 C.2.1 d_MO_carry_222 (lv_at hl 6 rfl) ?_
          refine lv_imul C.1 C.2.1 d_MO_carry_224 ?_
          refine lv_iload C.1 C.2.1 d_MO_carry_225 (lv_at hl 5 rfl) ?_
          refine lv_iadd C.1 C.2.1 d_MO_carry_227 ?_
          refine lv_aload_n C.1 C.2.1 d_MO_carry_228 rfl (lv_at hl 9 rfl) ?_
          refine xget C hP o_MO rfl c_MO (k := 34) (v := .ref (b + 31)) (by decide) wg_911 rfl d_MO_carry_229 ?_
          refine lv_iconst (v := 4) C.1 C.2.1 d_MO_carry_232 (by decide) ?_
          refine lv_iload C.1 C.2.1 d_MO_carry_233 (lv_at hl 6 rfl) ?_
          refine lv_imul C.1 C.2.1 d_MO_carry_235 ?_
          refine lv_iload C.1 C.2.1 d_MO_carry_236 (lv_at hl 5 rfl) ?_
          refine lv_iadd C.1 C.2.1 d_MO_carry_238 ?_
          refine xzald C hP om_31 rfl (v := (bz (st 31 (((4 * (st 38 ((f_MO_find (xu st 0 0 0 0) a1)).toNatClampNeg 0)) + (st 39 ((f_MO_find (xu st 0 0 0 0) a1)).toNatClampNeg 0))).toNatClampNeg 0))) (ix4 (nok_ix hm ⟨(fi_lt (qok_xu hq (by decide)) h1).1, by have z := (fi_lt (qok_xu hq (by decide)) h1).2; rw [xu_f (by decide)] at z; exact z⟩).1 ((nok_ix hm ⟨(fi_lt (qok_xu hq (by decide)) h1).1, by have z := (fi_lt (qok_xu hq (by decide)) h1).2; rw [xu_f (by decide)] at z; exact z⟩).2.1 (Or.inr (Or.inr h27)))) (congrArg (fun z => Value.int (bz z)) (Eq.trans (fr_MO_take (by simp) (by decide)) (xu_a (by decide)))) d_MO_carry_239 ?_
          refine lv_if_ne (tgt := 263) C.1 C.2.1 d_MO_carry_240 (by decide) (fun h28 => ?_) (fun h28 => ?_)
          · refine lv_iconst (v := 1) C.1 C.2.1 d_MO_carry_263 (by decide) ?_
            refine lv_goto (tgt := 268) C.1 C.2.1 d_MO_carry_264 (by decide) ?_
            refine xzast mw_inj C hP hS om_31 rfl (ix4 (nok_ix hm ⟨(fi_lt (qok_xu hq (by decide)) h1).1, by have z := (fi_lt (qok_xu hq (by decide)) h1).2; rw [xu_f (by decide)] at z; exact z⟩).1 ((nok_ix hm ⟨(fi_lt (qok_xu hq (by decide)) h1).1, by have z := (fi_lt (qok_xu hq (by decide)) h1).2; rw [xu_f (by decide)] at z; exact z⟩).2.1 (Or.inr (Or.inr h27)))) rfl d_MO_carry_268 (fun H locs hP hS => ?_)
            refine lv_goto (tgt := 296) C.1 C.2.1 d_MO_carry_269 (by decide) ?_
            refine lv_aload_n C.1 C.2.1 d_MO_carry_296 rfl (lv_at hl 9 rfl) ?_
            refine xcVv (rest := []) C hml hl.1 (k_MO_settle l D cA b (xu (f_MO_take (xu st 0 0 0 0) (f_MO_find (xu st 0 0 0 0) a1)) 31 (((4 * (st 38 ((f_MO_find (xu st 0 0 0 0) a1)).toNatClampNeg 0)) + (st 39 ((f_MO_find (xu st 0 0 0 0) a1)).toNatClampNeg 0))).toNatClampNeg 0 1) (qok_xa (p_MO_take (qok_xu hq (by decide)) (fi_lt (qok_xu hq (by decide)) h1).1 (fi_lt (qok_xu hq (by decide)) h1).2) (by decide)) (cok_of (cok_of (cok_of hc (fun _ => xu_a (by decide))) (fun _ => fr_MO_take (by simp) (by decide))) (fun _ => xu_a (by decide)))) q_MO_settle rfl rfl wg_1119 wg_1121 ws_56 ⟨Nat.le_of_ble_eq_true rfl, Nat.le_of_ble_eq_true rfl⟩ hP hS o_MO rfl c_MO rfl (Nat.le_of_ble_eq_true rfl) d_MO_carry_297 rfl (fun H locs hP hS => ?_)
            refine lv_iconst (v := 1) C.1 C.2.1 d_MO_carry_300 (by decide) ?_
            exact xrz C hlk hr bz_1 hP hS d_MO_carry_301 ⟨by rw [f_MO_carry, if_pos h1, if_pos h2, if_pos h17, if_neg h24, if_neg h25, if_neg h26, if_pos h27, if_neg h28], by rw [f_MO_carry, if_pos h1, if_pos h2, if_pos h17, if_neg h24, if_neg h25, if_neg h26, if_pos h27, if_neg h28]⟩
          · refine lv_iload C.1 C.2.1 d_MO_carry_243 (lv_at hl 0 rfl) ?_
            refine lv_if_eq (tgt := 267) C.1 C.2.1 d_MO_carry_245 (by decide) (fun h => absurd h (by decide)) (fun _ => ?_)
            refine lv_aload_n C.1 C.2.1 d_MO_carry_248 rfl (lv_at hl 9 rfl) ?_
            refine xget C hP o_MO rfl c_MO (k := 33) (v := .ref (b + 30)) (by decide) wg_910 rfl d_MO_carry_249 ?_
            refine lv_iconst (v := 4) C.1 C.2.1 d_MO_carry_252 (by decide) ?_
            refine lv_iload C.1 C.2.1 d_MO_carry_253 (lv_at hl 6 rfl) ?_
            refine lv_imul C.1 C.2.1 d_MO_carry_255 ?_
            refine lv_iload C.1 C.2.1 d_MO_carry_256 (lv_at hl 5 rfl) ?_
            refine lv_iadd C.1 C.2.1 d_MO_carry_258 ?_
            refine xzald C hP om_30 rfl (v := (bz (st 30 (((4 * (st 38 ((f_MO_find (xu st 0 0 0 0) a1)).toNatClampNeg 0)) + (st 39 ((f_MO_find (xu st 0 0 0 0) a1)).toNatClampNeg 0))).toNatClampNeg 0))) (ix4 (nok_ix hm ⟨(fi_lt (qok_xu hq (by decide)) h1).1, by have z := (fi_lt (qok_xu hq (by decide)) h1).2; rw [xu_f (by decide)] at z; exact z⟩).1 ((nok_ix hm ⟨(fi_lt (qok_xu hq (by decide)) h1).1, by have z := (fi_lt (qok_xu hq (by decide)) h1).2; rw [xu_f (by decide)] at z; exact z⟩).2.1 (Or.inr (Or.inr h27)))) (congrArg (fun z => Value.int (bz z)) (Eq.trans (fr_MO_take (by simp) (by decide)) (xu_a (by decide)))) d_MO_carry_259 ?_
            refine lv_if_eq (tgt := 267) C.1 C.2.1 d_MO_carry_260 (by decide) (fun h29 => ?_) (fun h29 => ?_)
            · refine lv_iconst (v := 0) C.1 C.2.1 d_MO_carry_267 (by decide) ?_
              refine xzast mw_inj C hP hS om_31 rfl (ix4 (nok_ix hm ⟨(fi_lt (qok_xu hq (by decide)) h1).1, by have z := (fi_lt (qok_xu hq (by decide)) h1).2; rw [xu_f (by decide)] at z; exact z⟩).1 ((nok_ix hm ⟨(fi_lt (qok_xu hq (by decide)) h1).1, by have z := (fi_lt (qok_xu hq (by decide)) h1).2; rw [xu_f (by decide)] at z; exact z⟩).2.1 (Or.inr (Or.inr h27)))) rfl d_MO_carry_268 (fun H locs hP hS => ?_)
              refine lv_goto (tgt := 296) C.1 C.2.1 d_MO_carry_269 (by decide) ?_
              refine lv_aload_n C.1 C.2.1 d_MO_carry_296 rfl (lv_at hl 9 rfl) ?_
              refine xcVv (rest := []) C hml hl.1 (k_MO_settle l D cA b (xu (f_MO_take (xu st 0 0 0 0) (f_MO_find (xu st 0 0 0 0) a1)) 31 (((4 * (st 38 ((f_MO_find (xu st 0 0 0 0) a1)).toNatClampNeg 0)) + (st 39 ((f_MO_find (xu st 0 0 0 0) a1)).toNatClampNeg 0))).toNatClampNeg 0 0) (qok_xa (p_MO_take (qok_xu hq (by decide)) (fi_lt (qok_xu hq (by decide)) h1).1 (fi_lt (qok_xu hq (by decide)) h1).2) (by decide)) (cok_of (cok_of (cok_of hc (fun _ => xu_a (by decide))) (fun _ => fr_MO_take (by simp) (by decide))) (fun _ => xu_a (by decide)))) q_MO_settle rfl rfl wg_1119 wg_1121 ws_56 ⟨Nat.le_of_ble_eq_true rfl, Nat.le_of_ble_eq_true rfl⟩ hP hS o_MO rfl c_MO rfl (Nat.le_of_ble_eq_true rfl) d_MO_carry_297 rfl (fun H locs hP hS => ?_)
              refine lv_iconst (v := 1) C.1 C.2.1 d_MO_carry_300 (by decide) ?_
              exact xrz C hlk hr bz_1 hP hS d_MO_carry_301 ⟨by rw [f_MO_carry, if_pos h1, if_pos h2, if_pos h17, if_neg h24, if_neg h25, if_neg h26, if_pos h27, if_pos h28, if_pos h29], by rw [f_MO_carry, if_pos h1, if_pos h2, if_pos h17, if_neg h24, if_neg h25, if_neg h26, if_pos h27, if_pos h28, if_pos h29]⟩
            · refine lv_iconst (v := 1) C.1 C.2.1 d_MO_carry_263 (by decide) ?_
              refine lv_goto (tgt := 268) C.1 C.2.1 d_MO_carry_264 (by decide) ?_
              refine xzast mw_inj C hP hS om_31 rfl (ix4 (nok_ix hm ⟨(fi_lt (qok_xu hq (by decide)) h1).1, by have z := (fi_lt (qok_xu hq (by decide)) h1).2; rw [xu_f (by decide)] at z; exact z⟩).1 ((nok_ix hm ⟨(fi_lt (qok_xu hq (by decide)) h1).1, by have z := (fi_lt (qok_xu hq (by decide)) h1).2; rw [xu_f (by decide)] at z; exact z⟩).2.1 (Or.inr (Or.inr h27)))) rfl d_MO_carry_268 (fun H locs hP hS => ?_)
              refine lv_goto (tgt := 296) C.1 C.2.1 d_MO_carry_269 (by decide) ?_
              refine lv_aload_n C.1 C.2.1 d_MO_carry_296 rfl (lv_at hl 9 rfl) ?_
              refine xcVv (rest := []) C hml hl.1 (k_MO_settle l D cA b (xu (f_MO_take (xu st 0 0 0 0) (f_MO_find (xu st 0 0 0 0) a1)) 31 (((4 * (st 38 ((f_MO_find (xu st 0 0 0 0) a1)).toNatClampNeg 0)) + (st 39 ((f_MO_find (xu st 0 0 0 0) a1)).toNatClampNeg 0))).toNatClampNeg 0 1) (qok_xa (p_MO_take (qok_xu hq (by decide)) (fi_lt (qok_xu hq (by decide)) h1).1 (fi_lt (qok_xu hq (by decide)) h1).2) (by decide)) (cok_of (cok_of (cok_of hc (fun _ => xu_a (by decide))) (fun _ => fr_MO_take (by simp) (by decide))) (fun _ => xu_a (by decide)))) q_MO_settle rfl rfl wg_1119 wg_1121 ws_56 ⟨Nat.le_of_ble_eq_true rfl, Nat.le_of_ble_eq_true rfl⟩ hP hS o_MO rfl c_MO rfl (Nat.le_of_ble_eq_true rfl) d_MO_carry_297 rfl (fun H locs hP hS => ?_)
              refine lv_iconst (v := 1) C.1 C.2.1 d_MO_carry_300 (by decide) ?_
              exact xrz C hlk hr bz_1 hP hS d_MO_carry_301 ⟨by rw [f_MO_carry, if_pos h1, if_pos h2, if_pos h17, if_neg h24, if_neg h25, if_neg h26, if_pos h27, if_pos h28, if_neg h29], by rw [f_MO_carry, if_pos h1, if_pos h2, if_pos h17, if_neg h24, if_neg h25, if_neg h26, if_pos h27, if_pos h28, if_neg h29]⟩
        by_cases h30 : (st 37 ((f_MO_find (xu st 0 0 0 0) a1)).toNatClampNeg 0) = 5
        · refine lv_tableIn (tgt := 272) (off := 169) C.1 C.2.1 d_MO_carry_103 (by rw [h30]; decide) (by rw [h30]; decide) (by rw [h30]; rfl) (by decide) ?_
          refine lv_aload_n C.1 C.2.1 d_MO_carry_272 rfl (lv_at hl 9 rfl) ?_
          refine lv_iload C.1 C.2.1 d_MO_carry_273 (lv_at hl 6 rfl) ?_
          refine lv_iload C.1 C.2.1 d_MO_carry_275 (lv_at hl 5 rfl) ?_
          refine lv_iload C.1 C.2.1 d_MO_carry_277 (lv_at hl 4 rfl) ?_
          refine xcVv (rest := []) C hml hl.1 (k_MO_orders l D cA b (f_MO_take (xu st 0 0 0 0) (f_MO_find (xu st 0 0 0 0) a1)) (st 38 ((f_MO_find (xu st 0 0 0 0) a1)).toNatClampNeg 0) (st 39 ((f_MO_find (xu st 0 0 0 0) a1)).toNatClampNeg 0) (st 40 ((f_MO_find (xu st 0 0 0 0) a1)).toNatClampNeg 0) (p_MO_take (qok_xu hq (by decide)) (fi_lt (qok_xu hq (by decide)) h1).1 (fi_lt (qok_xu hq (by decide)) h1).2) (nok_ix hm ⟨(fi_lt (qok_xu hq (by decide)) h1).1, by have z := (fi_lt (qok_xu hq (by decide)) h1).2; rw [xu_f (by decide)] at z; exact z⟩).1 ((nok_ix hm ⟨(fi_lt (qok_xu hq (by decide)) h1).1, by have z := (fi_lt (qok_xu hq (by decide)) h1).2; rw [xu_f (by decide)] at z; exact z⟩).2.2.1 h24 h25 h26 h27) (by rw [fr_MO_take (by simp) (by decide), xu_a (by decide)]; exact ((nok_ix hm ⟨(fi_lt (qok_xu hq (by decide)) h1).1, by have z := (fi_lt (qok_xu hq (by decide)) h1).2; rw [xu_f (by decide)] at z; exact z⟩).2.2.2 h30))) q_MO_orders rfl rfl wg_1191 wg_1193 ws_68 ⟨Nat.le_of_ble_eq_true rfl, Nat.le_of_ble_eq_true rfl⟩ hP hS o_MO rfl c_MO rfl (Nat.le_of_ble_eq_true rfl) d_MO_carry_279 rfl (fun H locs hP hS => ?_)
          refine lv_goto (tgt := 296) C.1 C.2.1 d_MO_carry_282 (by decide) ?_
          refine lv_aload_n C.1 C.2.1 d_MO_carry_296 rfl (lv_at hl 9 rfl) ?_
          refine xcVv (rest := []) C hml hl.1 (k_MO_settle l D cA b (f_MO_orders (f_MO_take (xu st 0 0 0 0) (f_MO_find (xu st 0 0 0 0) a1)) (st 38 ((f_MO_find (xu st 0 0 0 0) a1)).toNatClampNeg 0) (st 39 ((f_MO_find (xu st 0 0 0 0) a1)).toNatClampNeg 0) (st 40 ((f_MO_find (xu st 0 0 0 0) a1)).toNatClampNeg 0)) (p_MO_orders (p_MO_take (qok_xu hq (by decide)) (fi_lt (qok_xu hq (by decide)) h1).1 (fi_lt (qok_xu hq (by decide)) h1).2)) (cok_of (cok_of (cok_of hc (fun _ => xu_a (by decide))) (fun _ => fr_MO_take (by simp) (by decide))) (fun _ => fr_MO_orders (by simp) (by decide)))) q_MO_settle rfl rfl wg_1119 wg_1121 ws_56 ⟨Nat.le_of_ble_eq_true rfl, Nat.le_of_ble_eq_true rfl⟩ hP hS o_MO rfl c_MO rfl (Nat.le_of_ble_eq_true rfl) d_MO_carry_297 rfl (fun H locs hP hS => ?_)
          refine lv_iconst (v := 1) C.1 C.2.1 d_MO_carry_300 (by decide) ?_
          exact xrz C hlk hr bz_1 hP hS d_MO_carry_301 ⟨by rw [f_MO_carry, if_pos h1, if_pos h2, if_pos h17, if_neg h24, if_neg h25, if_neg h26, if_neg h27, if_pos h30], by rw [f_MO_carry, if_pos h1, if_pos h2, if_pos h17, if_neg h24, if_neg h25, if_neg h26, if_neg h27, if_pos h30]⟩
        refine lv_tableOut (tgt := 285) C.1 C.2.1 d_MO_carry_103 (by have eh24 := lv_neT h24 (a := 1) (by decide); have eh25 := lv_neT h25 (a := 2) (by decide); have eh26 := lv_neT h26 (a := 3) (by decide); have eh27 := lv_neT h27 (a := 4) (by decide); have eh30 := lv_neT h30 (a := 5) (by decide); omega) (by decide) ?_
        refine lv_aload_n C.1 C.2.1 d_MO_carry_285 rfl (lv_at hl 9 rfl) ?_
        refine xget C hP o_MO rfl c_MO (k := 61) (v := .ref (b + 55)) (by decide) wg_938 rfl d_MO_carry_286 ?_
        refine lv_iload C.1 C.2.1 d_MO_carry_289 (lv_at hl 5 rfl) ?_
        refine lv_iconst (v := 1) C.1 C.2.1 d_MO_carry_291 (by decide) ?_
        refine lv_iload C.1 C.2.1 d_MO_carry_292 (lv_at hl 3 rfl) ?_
        refine lv_iadd C.1 C.2.1 d_MO_carry_294 ?_
        refine xiast mw_inj C hP hS om_55 rfl ((nok_ix hm ⟨(fi_lt (qok_xu hq (by decide)) h1).1, by have z := (fi_lt (qok_xu hq (by decide)) h1).2; rw [xu_f (by decide)] at z; exact z⟩).2.2.1 h24 h25 h26 h27) rfl d_MO_carry_295 (fun H locs hP hS => ?_)
        refine lv_aload_n C.1 C.2.1 d_MO_carry_296 rfl (lv_at hl 9 rfl) ?_
        refine xcVv (rest := []) C hml hl.1 (k_MO_settle l D cA b (xu (f_MO_take (xu st 0 0 0 0) (f_MO_find (xu st 0 0 0 0) a1)) 55 ((st 39 ((f_MO_find (xu st 0 0 0 0) a1)).toNatClampNeg 0)).toNatClampNeg 0 (1 + (st 41 ((f_MO_find (xu st 0 0 0 0) a1)).toNatClampNeg 0))) (qok_xa (p_MO_take (qok_xu hq (by decide)) (fi_lt (qok_xu hq (by decide)) h1).1 (fi_lt (qok_xu hq (by decide)) h1).2) (by decide)) (cok_of (cok_of (cok_of hc (fun _ => xu_a (by decide))) (fun _ => fr_MO_take (by simp) (by decide))) (fun _ => xu_a (by decide)))) q_MO_settle rfl rfl wg_1119 wg_1121 ws_56 ⟨Nat.le_of_ble_eq_true rfl, Nat.le_of_ble_eq_true rfl⟩ hP hS o_MO rfl c_MO rfl (Nat.le_of_ble_eq_true rfl) d_MO_carry_297 rfl (fun H locs hP hS => ?_)
        refine lv_iconst (v := 1) C.1 C.2.1 d_MO_carry_300 (by decide) ?_
        exact xrz C hlk hr bz_1 hP hS d_MO_carry_301 ⟨by rw [f_MO_carry, if_pos h1, if_pos h2, if_pos h17, if_neg h24, if_neg h25, if_neg h26, if_neg h27, if_neg h30], by rw [f_MO_carry, if_pos h1, if_pos h2, if_pos h17, if_neg h24, if_neg h25, if_neg h26, if_neg h27, if_neg h30]⟩
  · refine lv_iconst (v := 0) C.1 C.2.1 d_MO_carry_15 (by decide) ?_
    exact xrz C hlk hr bz_0 hP hS d_MO_carry_16 ⟨by rw [f_MO_carry, if_neg h1], by rw [f_MO_carry, if_neg h1]⟩
