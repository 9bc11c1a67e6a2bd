/-! catching: a row of the table whose class may not be resolved yet -/
section GCatch
variable {p : Program} {l : Launch} {e : Env} {R : Room} {s : State} {m : MethodId} {args : Array Value} {below : List Frame} {meth : Method} {c : Code} {locs : List Loc} {cells slots : Nat} {Q : State → Prop}
/-- one row of the table that covers the place: it takes the object, or the search goes on behind it; the tables have the row's class then -/
theorem g_row {U : State} {f : JFrame} {a : Addr} {x : ExceptionTableEntry} {t : List ExceptionTableEntry} {cT : ClassId} {ce : Cell} {own name : String} (hW : s.WarmedH U.vm) (hpl : e.platform.magicAccessors = ({} : Platform).magicAccessors) (hown : s.vm.findClass own = some f.method.cls) (hx : covers x f.pc = true) (h0 : x.catchType ≠ 0)
    (hlink : (Cond.classLink own x.catchType name).before args s = true) (hcT : s.vm.findClass name = some cT) (hce : U.heap[a]? = some ce) (hcv : ce.vm.isStatics = false) (hk : ∃ k, s.vm.classes[ce.cls]? = some k) :
    ∃ vm', s.WarmedH vm' ∧ ∀ (q : Handler → Pre) (E : CtlPost) (d : Bool) (acts : List Action), wp (findHandler.go f a (x :: t)) q E e d acts U ↔ if s.vm.assignable ce.cls cT = true then q (.found x.handlerPc) d acts (U.setVm vm') else wp (findHandler.go f a t) q E e d acts (U.setVm vm') := by
  obtain ⟨c', hc', hcl⟩ := Cond.classLink_spec hown hlink e.platform hpl
  cases hcT.symm.trans hc'
  obtain ⟨_, _, _, kt, _, _, _, _, _, hkt, _, _⟩ := hcl.here
  obtain ⟨hg₁, hw₁, -⟩ := State.classEntry (e := e) hW hcl
  refine ⟨_, hw₁, fun q E d acts => ?_⟩
  obtain ⟨ha, ht⟩ := hg₁.op (op := VmOp.resolveClass f.method.cls x.catchType) rfl
  obtain ⟨k1, hk1⟩ := hk
  obtain ⟨k1', hk1', -⟩ := hw₁.alike.2.2 _ _ hk1
  obtain ⟨k2', hk2', -⟩ := hw₁.alike.2.2 _ _ hkt
  have hobj := VmData.ne_statics_of hcv
  simp only [covers] at hx
  rw [← hw₁.alike.assignable]
  cases hfit : (U.vm.noted f.method.cls x.catchType (.cls cT)).assignable ce.cls cT <;>
    simp [findHandler.go, hx, h0, ha, ht, hce, hobj, hk1', hk2', hfit, VmOp.dirties, VmOp.acts]
end GCatch
