/-! catching: a row of the table whose class may not be resolved yet (g_row, g_catch go the way of the library's proofs of findHandler_go_link and Steps.caught) -/
section GCatch
variable {p : Program} {l : Launch} {e : Env} {R : Room} {s : State} {m : MethodId} {args : Array Value} {below : List Frame} {meth : Method} {c : Code} {locs : List Loc} {cells slots : Nat} {Q : State → Prop}
/-- one row of the table that covers the place: it takes the object, or the search goes on behind it; the tables have the row's class then -/
theorem g_row {U : State} {f : JFrame} {a : Addr} {x : ExceptionTableEntry} {t : List ExceptionTableEntry} {cT : ClassId} {ce : Cell} {own name : String} (hW : s.WarmedH U.vm) (hpl : e.platform.magicAccessors = ({} : Platform).magicAccessors) (hown : s.vm.findClass own = some f.method.cls) (hx : covers x f.pc = true) (h0 : x.catchType ≠ 0)
    (hlink : (Cond.classLink own x.catchType name).before args s = true) (hcT : s.vm.findClass name = some cT) (hce : U.heap[a]? = some ce) (hcv : ce.vm.isStatics = false) (hk : ∃ k, s.vm.classes[ce.cls]? = some k) :
    ∃ vm', s.WarmedH vm' ∧ ∀ (q : Handler → Pre) (E : CtlPost) (d : Bool) (acts : List Action), wp (findHandler.go f a (x :: t)) q E e d acts U ↔ if s.vm.assignable ce.cls cT = true then q (.found x.handlerPc) d acts (U.setVm vm') else wp (findHandler.go f a t) q E e d acts (U.setVm vm') := by
  obtain ⟨c', hc', hcl⟩ := Cond.classLink_spec hown hlink e.platform hpl
  cases hcT.symm.trans hc'
  obtain ⟨_, _, _, kt, _, _, _, _, _, hkt, _, _⟩ := hcl.here
  obtain ⟨hg₁, hw₁, -⟩ := State.classEntry (e := e) hW hcl
  refine ⟨_, hw₁, fun q E d acts => ?_⟩
  obtain ⟨ha, ht⟩ := hg₁.op (op := VmOp.resolveClass f.method.cls x.catchType) rfl
  obtain ⟨k1, hk1⟩ := hk
  obtain ⟨k1', hk1', -⟩ := hw₁.alike.2.2 _ _ hk1
  obtain ⟨k2', hk2', -⟩ := hw₁.alike.2.2 _ _ hkt
  have hobj := VmData.ne_statics_of hcv
  simp only [covers] at hx
  rw [← hw₁.alike.assignable]
  cases hfit : (U.vm.noted f.method.cls x.catchType (.cls cT)).assignable ce.cls cT <;>
    simp [findHandler.go, hx, h0, ha, ht, hce, hobj, hk1', hk2', hfit, VmOp.dirties, VmOp.acts]
/-- the search through rows that pass, to one that takes the object -/
theorem g_seek {f : JFrame} {a : Addr} {x : ExceptionTableEntry} {suf : List ExceptionTableEntry} {cT : ClassId} {ce : Cell} {own name : String} (hpl : e.platform.magicAccessors = ({} : Platform).magicAccessors) (hown : s.vm.findClass own = some f.method.cls) (hx : covers x f.pc = true) (h0 : x.catchType ≠ 0)
    (hlink : (Cond.classLink own x.catchType name).before args s = true) (hcT : s.vm.findClass name = some cT) (hfit : s.vm.assignable ce.cls cT = true) (hcv : ce.vm.isStatics = false) (hk : ∃ k, s.vm.classes[ce.cls]? = some k) :
    ∀ pre : List ExceptionTableEntry, (∀ y ∈ pre, covers y f.pc = false ∨ (covers y f.pc = true ∧ y.catchType ≠ 0 ∧ ∃ (n : String) (cY : ClassId), (Cond.classLink own y.catchType n).before args s = true ∧ s.vm.findClass n = some cY ∧ s.vm.assignable ce.cls cY = false)) →
    ∀ U : State, s.WarmedH U.vm → U.heap[a]? = some ce → ∃ vm', s.WarmedH vm' ∧ ∀ (q : Handler → Pre) (E : CtlPost) (d : Bool) (acts : List Action), wp (findHandler.go f a (pre ++ x :: suf)) q E e d acts U ↔ q (.found x.handlerPc) d acts (U.setVm vm')
  | [], _, U, hW, hce => by
    obtain ⟨vm', hw, hq⟩ := g_row (t := suf) hW hpl hown hx h0 hlink hcT hce hcv hk
    exact ⟨vm', hw, fun q E d acts => (hq q E d acts).trans (by rw [if_pos hfit])⟩
  | y :: ys, hp, U, hW, hce => by
    rcases hp y (List.mem_cons_self ..) with hy | ⟨hy, hy0, n, cY, hl, hc, hno⟩
    · obtain ⟨vm', hw, hq⟩ := g_seek hpl hown hx h0 hlink hcT hfit hcv hk ys (fun z hz => hp z (List.mem_cons_of_mem _ hz)) U hW hce
      exact ⟨vm', hw, fun q E d acts => by rw [List.cons_append, W.findHandler_go_skip hy]; exact hq q E d acts⟩
    · obtain ⟨vm1, hw1, hq1⟩ := g_row (t := ys ++ x :: suf) hW hpl hown hy hy0 hl hc hce hcv hk
      obtain ⟨vm', hw, hq⟩ := g_seek hpl hown hx h0 hlink hcT hfit hcv hk ys (fun z hz => hp z (List.mem_cons_of_mem _ hz)) (U.setVm vm1) hw1 hce
      exact ⟨vm', hw, fun q E d acts => by
        rw [List.cons_append]
        refine (hq1 q E d acts).trans ?_
        rw [if_neg (by rw [hno]; decide)]
        exact hq q E d acts⟩
/-- from the exception over the frame to the first place of the handler -/
theorem g_catch {T : State} {g : JFrame} {a : Addr} {x : ExceptionTableEntry} {pre suf : List ExceptionTableEntry} {cT : ClassId} {ce : Cell} {own name : String} (X : Stand p l e R s m args below meth c T locs cells slots) (hg : g.method = m) (hown : s.vm.findClass own = some m.cls) (hsplit : c.exceptionTable.toList = pre ++ x :: suf)
    (hpre : ∀ y ∈ pre, covers y g.pc = false ∨ (covers y g.pc = true ∧ y.catchType ≠ 0 ∧ ∃ (n : String) (cY : ClassId), (Cond.classLink own y.catchType n).before args s = true ∧ s.vm.findClass n = some cY ∧ s.vm.assignable ce.cls cY = false))
    (hx : covers x g.pc = true) (h0 : x.catchType ≠ 0) (hlink : (Cond.classLink own x.catchType name).before args s = true) (hcT : s.vm.findClass name = some cT) (hfit : s.vm.assignable ce.cls cT = true) (hce : T.heap[a]? = some ce) (hcv : ce.vm = .none) (hk : ∃ k, s.vm.classes[ce.cls]? = some k)
    (hW : W p l e R s m args below meth c T.heap locs cells slots Q { g with pc := x.handlerPc, stack := [.ref a] }) :
    ∃ t, Steps p.tables e below ((T.setTop g).pushFrame (.throwing a)) t ∧ Q t := by
  subst hg
  have h : At T g.method c below := X.here
  have hpl : e.platform.magicAccessors = ({} : Platform).magicAccessors := by rw [X.admits.platform]
  obtain ⟨vm', hw, hq⟩ := g_seek (a := a) (suf := suf) (f := g) hpl hown hx h0 hlink hcT hfit (by rw [hcv]; rfl) hk pre hpre ((T.setTop g).pushFrame (.throwing a)) (by rw [Stand.throwing_vm]; exact X.warmed) (by rw [Stand.throwing_heap]; exact hce)
  obtain ⟨t, h1, h2⟩ := hW (T.setVm vm') rfl (X.noted hw)
  refine ⟨t, ?_, h2⟩
  obtain ⟨hgo, hww⟩ := h.throwing a
  refine Steps.head hgo hww ?_
  have hm' : ((T.setTop g).pushFrame (.throwing a)).vm.method? g.method = some meth := by rw [Stand.throwing_vm]; exact X.method'
  have hgo2 : (stepThrowing e ((T.setTop g).pushFrame (.throwing a)) a (.java g :: T.frames.tail)).1 = (((T.setTop g).pushFrame (.throwing a)).setVm vm').setFrames (.java { g with pc := x.handlerPc, stack := [.ref a] } :: T.frames.tail) := by
    simp only [stepThrowing, searchFrame, vmDo]
    generalize hr : Sem.go _ e false [] _ = res
    obtain ⟨as, rfl, -⟩ := Sem.eq_ok_of hr (a := Handler.found x.handlerPc) (s' := ((T.setTop g).pushFrame (.throwing a)).setVm vm') (acts' := []) (by simp [W.findHandler_eq hm' X.code, hsplit, hq])
    rfl
  rw [stepThread_throwing (frames_entered h.top _), hgo2]
  obtain ⟨g₀, hg0⟩ := Option.isSome_iff_exists.mp h.top
  obtain ⟨r, hr⟩ := State.topJava?_eq_some.mp hg0
  have hr' : (T.setVm vm').frames = .java g₀ :: r := hr
  have e1 : (((T.setTop g).pushFrame (.throwing a)).setVm vm').setFrames (.java { g with pc := x.handlerPc, stack := [.ref a] } :: T.frames.tail) = (T.setVm vm').setTop { g with pc := x.handlerPc, stack := [.ref a] } := by
    rw [State.setTop_of_frames _ hr', State.pushFrame, State.setTop_of_frames _ hr, hr, List.tail_cons, State.setFrames_setFrames]
    exact State.setFrames_setFrames (s := T.setVm vm') ..
  rw [e1]
  exact h1
end GCatch
