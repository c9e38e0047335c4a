section XH
variable {p : Program} {l : Launch} {e : Env} {R : Room} {s : State} {m : MethodId} {args : Array Value} {below : List Frame} {meth : Method} {c : Code} {H : Heap} {locs : List Loc}
variable {cc : ByteArray} {pc : Nat} {ls : Array Slot} {rest : List Value} {own : String} {D : va_G} {cA : Nat → ClassId} {w : xD} {b : Nat} {st : XS}
/-- 'throw new E()': the body ends with it; the world stays -/
theorem xthrow (C : xCx p s m args c cc own D cA) (hl : l.stackTraces = false) {cls : String} {names : List String} {ik ic ex : Nat} {r : Int32} (hcls : Bundle.fit cls = true) (hnames : ∀ n ∈ names, Bundle.fit n = true) (hok : thOk own ic cls names = true) (hk : Cond.classLink own ik cls ∈ wsG) (hini : Cond.initialized cls ∈ wsG) (hins : Cond.instantiable cls 6 ∈ wsG)
    (hT : xPreT w D cA b st s) (hP : xP w D cA b st H) (hS : va_S (xA w b) s.heap H locs) (hsize : ls.size = c.maxLocals)
    (d0 : decode cc pc = .ok (.new ik, 3)) (d3 : decode cc (pc + 3) = .ok (.dup, 1)) (d4 : decode cc (pc + 4) = .ok (.invokespecial ic, 3)) (d7 : decode cc (pc + 7) = .ok (.athrow, 1)) (hno : c.exceptionTable.toList = [])
    (hRf : names.length + 3 < R.frames) (hRl : (rest.map fun v => v.category).sum + (13 * (names.length + 1) + 42) ≤ R.locals) (hRc : 0 + 1 ≤ R.cells) (hRs : 0 + 6 ≤ R.slots) (hlk : meth.locks = false) (hex : exN ex = cls) (hex0 : ex ≠ 0) :
    W p l e R s m args below meth c H locs 0 0 (xEt w D cA b below s ex r st) (F0 m pc ls rest) := by
  intro T hTH X
  have htr : e.platform.stackTraces = false := (show e.platform.stackTraces = l.stackTraces by rw [X.admits.platform]).trans hl
  have hlow : ∀ q, q < b → H[q]? = s.heap[q]? := by
    intro q hq
    by_cases hz : q < s.heap.size
    · exact hS.2.1 q hz (fun z => absurd z.1 (by omega))
    · have h1 : zst tThr "UNASSIGNED_STACK" dSte b s := hT.2.2.1
      have hbs : b ≤ s.heap.size ∨ w.2.2.2.2 = 0 := by
        by_cases hn : w.2.2.2.2 = 0
        · exact Or.inr hn
        · refine Or.inl ?_
          have h2 := hT.1.1 0 (by omega)
          unfold xat at h2
          split at h2
          · obtain ⟨-, -, cell, g1, -⟩ := h2
            have := (Array.getElem?_eq_some_iff.mp g1).1
            omega
          · have := (Array.getElem?_eq_some_iff.mp h2).1
            omega
      rcases hbs with h3 | h3
      · omega
      · have hS' := hS.1
        by_cases hy : q < H.size
        · exfalso
          have h4 := X.heapSize
          rw [hTH] at h4
          omega
        · rw [Array.getElem?_eq_none (by omega), Array.getElem?_eq_none (by omega)]
  have Y := xfresh X (k := 1) (n := 6) hRc hRs
  obtain ⟨s', hs'⟩ : ∃ z, z = (T.setVm s.vm).setFrames (.invoking m args :: below) := ⟨_, rfl⟩
  rw [← hs'] at Y
  have hvm : s'.vm = s.vm := by rw [hs']; rfl
  have hhp : s'.heap = H := by rw [hs']; exact hTH
  have hW0 : s.WarmedH s'.vm := by rw [hvm]; exact State.WarmedH.refl s
  have hg' : ∀ w ∈ wsG, w.before args s' = true := fun w hw => word_at hW0 (good_of_word (List.mem_filter.mp hw).2) (C.2.2.2.1 w hw)
  have hat : ∀ w ∈ Bundle.ownAtoms0 own ic cls names, w.before args s' = true := thWords (b := b) hok hg' (hT.2.1.same hvm.symm) (hT.2.2.1.moved hW0.alike (fun a ha => by rw [hhp]; exact hlow a ha)) (hT.2.2.2.moved hW0.alike (fun a ha => by rw [hhp]; exact hlow a ha))
  have hown' : s'.vm.findClass own = some m.cls := by rw [hvm]; exact C.2.2.1
  obtain ⟨vm₁, cX, kX, hfX, hkX, -, -, X₁, st1⟩ := Y.newCold C.1 (own := own) (C := cls) (index := ik) (n := 6) hown' (hg' _ hk) (hg' _ hins) (hg' _ hini) (g := F0 m pc ls rest) rfl (by rw [C.2.1]; exact d0) (Nat.le_refl _) (Nat.le_refl _)
  generalize hT1 : (T.setVm vm₁).pushCell { cls := cX, slots := kX.instanceTypes.map defaultValue, vm := .none } = T1 at X₁ st1
  have hcat : (Value.ref T.heap.size).category = 1 := rfl
  have hcellA : T1.heap[T.heap.size]? = some (freshCell cX kX) := by rw [← hT1]; exact State.heap_pushCell_size _ _
  have d3' : decode c.code (pc + 3) = .ok (.dup, 1) := by rw [C.2.1]; exact d3
  have hexec := C.1
  obtain ⟨U, hsteps, hrun, hend, hW, hsame, ce, hce, hO⟩ := X₁.ctorThrow0 C.1 htr (own := own) (cls := cls) (names := names) (ic := ic) hown' hcls hnames hat (fun x hx => nomatch hx) hfX hkX hcellA (by rw [hhp, hTH]; exact Nat.le_refl _)
    (g := { method := m, pc := pc + 4, locals := ls, stack := .ref T.heap.size :: .ref T.heap.size :: rest, locked := none }) rfl hsize rfl rfl (rest := rest) rfl
    (by rw [C.2.1]; exact d4) (by rw [C.2.1]; exact d7) (fun x hx => by rw [hno] at hx; cases hx) hRf (by simp only [List.map_cons, List.sum_cons, hcat]; omega) hlk
  have hkept : ∀ q, q < H.size → U.heap[q]? = H[q]? := by
    intro q hq
    rw [← hhp] at hq ⊢
    obtain ⟨c9, e1, e2, e3, e4⟩ := hsame.2.2.2.2.2 q _ (Array.getElem?_eq_getElem hq)
    have hs9 : c9.slots = (s'.heap[q]).slots := Array.ext_getElem? fun i => e4 i (fun h => nomatch h)
    have h9 : c9 = s'.heap[q] := by rw [hs9] at e2; exact e2
    rw [Array.getElem?_eq_getElem hq, ← h9]
    exact e1
  have hsz : H.size ≤ U.heap.size := by
    have := hsame.2.1
    rw [hhp] at this
    exact this
  have hWs : s.WarmedH U.vm := State.WarmedH.trans hW0 hW
  have hcl : s.vm.findClass cls = some ce.cls := by
    have h9 := hO.cls
    rw [hvm] at h9
    exact h9
  have hall : s.sameButNew ({ U with vm := s.vm } : State) locs 1 6 := by
    subst hs'
    obtain ⟨e1, e2⟩ := hsame
    rw [State.setFrames_setFrames] at e1
    have h2 : (T.setVm s.vm).sameButNew ({ U with vm := s.vm } : State) [] (0 + 1) (0 + 6) := ⟨e1, e2⟩
    have h3 := X.same.trans h2
    rw [List.append_nil] at h3
    exact h3
  have hPU : xP w D cA b st U.heap := by
    intro j hj
    have h2 := hP j hj
    refine h2.kept (hkept _ ?_) (fun _ => rfl)
    unfold xat at h2
    split at h2
    · obtain ⟨-, -, cell, g1, -⟩ := h2
      exact (Array.getElem?_eq_some_iff.mp g1).1
    · exact (Array.getElem?_eq_some_iff.mp h2).1
  have hF : va_F (xA w b) s U := ⟨Nat.le_trans hS.1 hsz, fun q h1 h2 => by rw [hkept q (Nat.lt_of_lt_of_le h1 hS.1)]; exact hS.2.1 q h1 h2⟩
  refine ⟨U, ?_, .threw T.heap.size, hrun, hend, ⟨⟨hPU, hF⟩, Or.inr ⟨hex0, T.heap.size, ce, rfl, hce, hO.vm, by rw [hex]; exact hcl⟩⟩, hWs, locs, hall, hS.2.2⟩
  refine st1 _ ?_
  show Steps p.tables e below (T1.setTop { method := m, pc := pc + 3, locals := ls, stack := .ref T.heap.size :: rest, locked := none }) _
  jvm_step X₁.here [X₁.here.top, hexec, d3', Value.category]
  exact hsteps
end XH
