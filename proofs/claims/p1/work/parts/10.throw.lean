/-! A method that throws a new exception: the invocation is looked at as if it began with the heap that it has now (g_rebase), so that the library's law of the constructors (Stand.ctorThrowS) says that no cell of now changes. -/
section GThrow
variable {p : Program} {l : Launch} {e : Env} {R : Room} {s : State} {m : MethodId} {args : Array Value} {below : List Frame} {meth : Method} {c : Code} {T : State} {locs : List Loc} {cells slots : Nat} {H : Heap} {Q : State → Prop}
theorem g_Wmono {Q' : State → Prop} {g : JFrame} (h : W p l e R s m args below meth c H locs cells slots Q g) (hQ : ∀ t, Q t → Q' t) : W p l e R s m args below meth c H locs cells slots Q' g := by
  intro T hT X
  obtain ⟨t, st, q⟩ := h T hT X
  exact ⟨t, st, hQ t q⟩
def g_now (s T : State) : State := { s with heap := T.heap, slotsUsed := T.slotsUsed }
theorem g_now_vm (s T : State) : (g_now s T).vm = s.vm := rfl
theorem g_now_heap (s T : State) : (g_now s T).heap = T.heap := rfl
theorem g_now_same (X : Stand p l e R s m args below meth c T locs cells slots) : (g_now s T).sameButNew (T.setVm s.vm) [] 0 0 := by
  refine ⟨X.same.1, Nat.le_refl _, Nat.le_refl _, ?_, ?_, fun a c h => ⟨c, h, rfl, rfl, fun _ _ => rfl⟩⟩
  · show T.slotsUsed = T.slotsUsed + ((T.heap.toList.drop T.heap.size).map (·.slots.size)).sum
    rw [List.drop_eq_nil_of_le (by simp)]
    rfl
  · show ((T.heap.toList.drop T.heap.size).map (·.slots.size)).sum ≤ 0
    rw [List.drop_eq_nil_of_le (by simp)]
    exact Nat.le_refl _
theorem g_now_room (X : Stand p l e R s m args below meth c T locs cells slots) (hc : cells ≤ R.cells) (hs : slots ≤ R.slots) : (g_now s T).hasRoom e.platform { R with cells := R.cells - cells, slots := R.slots - slots } = true := by
  have h := X.room
  have h1 := X.heapSize
  have h2 := X.used
  have h3 := X.book
  simp only [State.hasRoom, Bool.and_eq_true, decide_eq_true_eq] at h ⊢
  obtain ⟨⟨⟨⟨a1, a2⟩, a3⟩, a4⟩, a5⟩ := h
  refine ⟨⟨⟨⟨a1, a2⟩, ?_⟩, ?_⟩, h3⟩
  · show T.heap.size + (R.cells - cells) ≤ e.platform.maxCells
    omega
  · show T.slotsUsed + (R.slots - slots) ≤ e.platform.maxSlots
    omega
theorem g_rebase (X : Stand p l e R s m args below meth c T locs cells slots) (hc : cells ≤ R.cells) (hs : slots ≤ R.slots) : Stand p l e { R with cells := R.cells - cells, slots := R.slots - slots } (g_now s T) m args below meth c T [] 0 0 :=
  ⟨X.admits, X.cas, X.clock, X.frames, g_now_room X hc hs, X.hears, X.method, X.code, X.here, X.tail, X.warmed, X.limits, X.bytes, g_now_same X⟩
/-- what came since now came since the start -/
theorem g_since {U : State} {k n : Nat} (X : Stand p l e R s m args below meth c T locs cells slots) (h : (g_now s T).sameButNew ({ U with vm := (g_now s T).vm } : State) [] k n) : s.sameButNew ({ U with vm := s.vm } : State) locs (cells + k) (slots + n) := by
  have h0 : (T.setVm s.vm).sameButNew ({ U with vm := s.vm } : State) [] k n := by
    refine ⟨?_, h.2⟩
    have e3 : ∀ F : List Frame, (T.setVm s.vm).setFrames F = (g_now s T).setFrames F := fun F =>
      calc (T.setVm s.vm).setFrames F = ({ s.setFrames (T.setVm s.vm).frames with heap := (T.setVm s.vm).heap, slotsUsed := (T.setVm s.vm).slotsUsed } : State).setFrames F := congrArg (fun z : State => z.setFrames F) X.same.1
        _ = ({ (s.setFrames (T.setVm s.vm).frames).setFrames F with heap := T.heap, slotsUsed := T.slotsUsed } : State) := rfl
        _ = ({ s.setFrames F with heap := T.heap, slotsUsed := T.slotsUsed } : State) := by rw [State.setFrames_setFrames]
        _ = (g_now s T).setFrames F := rfl
    rw [e3]
    exact h.1
  have := X.same.trans h0
  rw [List.append_nil] at this
  exact this
theorem g_heap {U : State} {k n : Nat} (h : (g_now s T).sameButNew ({ U with vm := (g_now s T).vm } : State) [] k n) : ∀ q, q < T.heap.size → U.heap[q]? = T.heap[q]? := by
  intro q hq
  have hc : (g_now s T).heap[q]? = some T.heap[q] := Array.getElem?_eq_getElem hq
  obtain ⟨c', h1, h2, h3, h4⟩ := h.2.2.2.2.2 q _ hc
  have h5 : c' = T.heap[q] := by
    rw [h2]
    have : c'.slots = T.heap[q].slots := Array.ext_getElem? (fun i => h4 i (by simp))
    rw [this]
  have h6 : U.heap[q]? = some c' := h1
  rw [h6, h5]
  exact hc.symm
end GThrow
section GThrow2
variable {p : Program} {l : Launch} {e : Env} {R : Room} {s : State} {m : MethodId} {args : Array Value} {below : List Frame} {meth : Method} {c : Code} {locs : List Loc} {cells slots : Nat} {H : Heap} {Q : State → Prop}
/-- new E("text") thrown, no handler here -/
theorem g_throwW {cc : ByteArray} (hexec : p.tables.exec = Jvm.exec) (hb : c.code = cc) (htr : e.platform.stackTraces = false) {own cls text : String} {names : List String} {ik is ic pc msg : Nat} {ls : Array Slot} {rest : List Value}
    (hown : s.vm.findClass own = some m.cls) (hcls : Bundle.fit cls = true) (hnames : ∀ n ∈ names, Bundle.fit n = true)
    (hk : (Cond.classLink own ik cls).before args s = true) (hins : (Cond.instantiable cls 6).before args s = true) (hini : (Cond.initialized cls).before args s = true) (hR : vk_R own is text msg s)
    (hat : ∀ T : State, T.heap = H → ∀ a ∈ Bundle.ownAtoms own ic cls names, a.before args (g_now s T) = true)
    (hlen : ls.size = c.maxLocals) (hout : c.exceptionTable.isEmpty = true) (hlocks : meth.locks = false)
    (d0 : decode cc pc = .ok (.new ik, 3)) (d3 : decode cc (pc + 3) = .ok (.dup, 1)) (d4 : decode cc (pc + 4) = .ok (.ldc is, 2)) (d6 : decode cc (pc + 6) = .ok (.invokespecial ic, 3)) (d9 : decode cc (pc + 9) = .ok (.athrow, 1))
    (hfr : names.length + 3 < R.frames) (hlo : (rest.map fun v => v.category).sum + (13 * (names.length + 1) + 43) ≤ R.locals) (hc : cells + 1 ≤ R.cells) (hs : slots + 6 ≤ R.slots)
    (hq : ∀ (U : State) (ce : Cell), (∀ q, q < H.size → U.heap[q]? = H[q]?) → U.heap[H.size]? = some ce → ce.vm = .none → s.vm.findClass cls = some ce.cls → s.WarmedH U.vm → s.sameButNew ({ U with vm := s.vm } : State) locs (cells + 1) (slots + 6) → U.status = .running → Ended U below (.threw H.size) → Q U) :
    W p l e R s m args below meth c H locs cells slots Q (F0 m pc ls rest) := by
  intro T hT X
  have X0 := g_rebase X (by omega) (by omega)
  have hown2 : (g_now s T).vm.findClass own = some m.cls := hown
  obtain ⟨vm₁, cX, kX, hfX, hkX, -, -, X₁, st1⟩ := X0.newCold hexec (own := own) (C := cls) (index := ik) (n := 6) hown2 (va_tabs (A := args) (u := s) rfl rfl hk) (va_tabs (A := args) (u := s) rfl rfl hins) (va_tabs (A := args) (u := s) rfl rfl hini) (g := F0 m pc ls rest) rfl (by rw [hb]; exact d0)
    (show 0 + 1 ≤ R.cells - cells by omega) (show 0 + 6 ≤ R.slots - slots by omega)
  have K : W p l e { R with cells := R.cells - cells, slots := R.slots - slots } (g_now s T) m args below meth c ((T.setVm vm₁).pushCell { cls := cX, slots := kX.instanceTypes.map defaultValue, vm := .none }).heap [] (0 + 1) (0 + 6) Q (F0 m (pc + 3) ls (.ref T.heap.size :: rest)) := by
    refine lv_dup hexec hb d3 rfl ?_
    refine va_ldcS hexec hb hown2 (hR.same rfl) d4 ?_
    intro T₂ hT₂ X₂
    have hcell : T₂.heap[T.heap.size]? = some (freshCell cX kX) := by
      rw [hT₂]
      exact State.heap_pushCell_size (T.setVm vm₁) _
    obtain ⟨U, st, hrun, hend, hW, hsame, ce, hce, ho⟩ := X₂.ctorThrowS hexec htr (cls := cls) (names := names) (ic := ic) hown2 hcls hnames (hat T hT) (fun x h => by cases h) (a := T.heap.size) hfX hkX hcell (Nat.le_refl _) (msg := .ref msg) rfl
      (g := F0 m (pc + 3 + 1 + 2) ls (.ref msg :: .ref T.heap.size :: .ref T.heap.size :: rest)) rfl hlen rfl rfl (rest := rest) rfl (by rw [hb]; exact d6) (by rw [hb]; exact d9) (fun x hx => by rw [Array.isEmpty_iff.mp hout] at hx; cases hx) hfr
      (by
        have : (Value.ref T.heap.size).category = 1 := rfl
        simp only [List.map_cons, List.sum_cons, this]
        show 2 * 0 + (1 + (List.map (fun v => v.category) rest).sum) + (13 * (names.length + 1) + 42) ≤ R.locals
        omega) hlocks
    have hz : T.heap.size = H.size := by rw [hT]
    refine ⟨U, st, hq U ce ?_ ?_ ho.vm ?_ hW ?_ hrun ?_⟩
    · intro q hq1
      rw [g_heap hsame q (by rw [hz]; exact hq1), hT]
    · rw [← hz]; exact hce
    · exact ho.cls
    · exact g_since X hsame
    · rw [← hz]; exact hend
  obtain ⟨t, st, q⟩ := K _ rfl X₁
  exact ⟨t, st1 _ st, q⟩
end GThrow2

