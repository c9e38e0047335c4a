section XB
variable {p : Program} {l : Launch} {e : Env} {R : Room} {s : State} {m : MethodId} {args : Array Value} {below : List Frame} {meth : Method} {c : Code} {H : Heap} {locs : List Loc}
variable {cc : ByteArray} {pc : Nat} {ls : Array Slot} {rest : List Value} {own : String} {D : va_G} {cA : Nat → ClassId} {w : xD} {b : Nat} {st : XS}
/-- the body's point T as a start of its own: nothing written yet, so much room left -/
theorem xfresh {T : State} {cells slots k n : Nat} (X : Stand p l e R s m args below meth c T locs cells slots) (hc : cells + k ≤ R.cells) (hs : slots + n ≤ R.slots) :
    Stand p l e { frames := R.frames, cells := k, slots := n, locals := R.locals } ((T.setVm s.vm).setFrames (.invoking m args :: below)) m args below meth c T [] 0 0 := by
  have htop : (T.setVm s.vm).topJava?.isSome := X.here.top
  obtain ⟨g₀, hg0⟩ := Option.isSome_iff_exists.mp htop
  obtain ⟨r, hr⟩ := State.topJava?_eq_some.mp hg0
  obtain ⟨th, hth, -⟩ := State.frames_cons hr
  have hF : ((T.setVm s.vm).setFrames (.invoking m args :: below)).frames = .invoking m args :: below := State.frames_setFrames _ (State.cur_lt_of_top htop)
  have hlocals : ((T.setVm s.vm).setFrames (.invoking m args :: below)).localsInUse = s.localsInUse := (State.localsInUse_invoking hF (meth := meth) (c := c) X.method X.code).trans (State.localsInUse_invoking X.frames X.method X.code).symm
  have hlim : e.platform.stackLimits (T.setVm s.vm).me = e.platform.stackLimits s.me := X.limits
  have hbyt : (T.setVm s.vm).me.stackBytes = s.me.stackBytes := X.bytes
  have z1 := X.heapSize
  have z2 := X.used
  refine { admits := X.admits, cas := X.cas, clock := X.clock, frames := hF, room := ?_, hears := X.hears, method := X.method, code := X.code, here := X.here, tail := X.tail, warmed := X.warmed, limits := ?_, bytes := ?_, same := ?_ }
  · have h := X.room
    simp only [State.hasRoom, Bool.and_eq_true, decide_eq_true_eq] at h ⊢
    obtain ⟨⟨⟨⟨r1, r2, r3, r4, r5, r6⟩, r7⟩, r8⟩, -⟩ := h
    rw [X.frames, List.length_cons] at r2 r3
    simp only [hF, hlocals, List.length_cons, State.stackLimits_setFrames, State.stackBytes_setFrames, hlim, hbyt]
    refine ⟨⟨⟨⟨r1, r2, r3, r4, r5, r6⟩, ?_⟩, ?_⟩, X.book⟩
    · show T.heap.size + k ≤ e.platform.maxCells
      omega
    · show T.slotsUsed + n ≤ e.platform.maxSlots
      omega
  · rw [State.stackLimits_setFrames]; rfl
  · rw [State.stackBytes_setFrames]; rfl
  · have hd : ((T.heap.toList.drop T.heap.size).map (·.slots.size)).sum = 0 := by
      rw [List.drop_eq_nil_of_le (Nat.le_of_eq Array.length_toList)]
      rfl
    refine ⟨?_, Nat.le_refl _, Nat.le_refl _, ?_, Nat.le_of_eq hd, fun a c' h' => ⟨c', h', rfl, rfl, fun _ _ => rfl⟩⟩
    · show T.setVm s.vm = { ((T.setVm s.vm).setFrames (.invoking m args :: below)).setFrames (T.setVm s.vm).frames with heap := T.heap, slotsUsed := T.slotsUsed }
      rw [State.setFrames_setFrames, State.setFrames_self hth]
      rfl
    · show T.slotsUsed = T.slotsUsed + ((T.heap.toList.drop T.heap.size).map (·.slots.size)).sum
      rw [hd]
      rfl
/-- the words of a throw: by the good ones, by those that move with the tables, by the two statics -/
def thOk (own : String) (ic : Nat) (cls : String) (names : List String) : Bool := (Bundle.ownAtoms0 own ic cls names).all fun w => (goodWord w && decide (w ∈ wsG)) || (tW w && decide (w ∈ tables_1)) || decide (w = .isRef (.static tThr "UNASSIGNED_STACK" dSte)) || decide (w = .isRef (.static tThr "SUPPRESSED_SENTINEL" dLst)) || decide (w = .laysStatic tThr "UNASSIGNED_STACK" dSte) || decide (w = .laysStatic tThr "SUPPRESSED_SENTINEL" dLst)
theorem thWords {own : String} {ic : Nat} {cls : String} {names : List String} (h : thOk own ic cls names = true) {U : State} {a' : Array Value} (hg : ∀ w ∈ wsG, w.before a' U = true) (hT : KT U) (h1 : zst tThr "UNASSIGNED_STACK" dSte b U) (h2 : zst tThr "SUPPRESSED_SENTINEL" dLst b U) : ∀ w ∈ Bundle.ownAtoms0 own ic cls names, w.before a' U = true := by
  intro w hw
  have h3 := List.all_eq_true.mp h w hw
  simp only [Bool.or_eq_true, Bool.and_eq_true, decide_eq_true_eq] at h3
  rcases h3 with ((((h4 | h4) | h4) | h4) | h4) | h4
  · exact hg w h4.2
  · have h5 := hT w h4.2 h4.1
    cases w with
    | castable x y => exact va_Nw.use rfl h5
    | declares x => exact va_Nw.use rfl h5
    | _ => simp [tW] at h4
  · rw [h4]; exact h1.isRef
  · rw [h4]; exact h2.isRef
  · rw [h4]; exact h1.lays
  · rw [h4]; exact h2.lays
end XB
