/-! a method with a table of handlers, which always answers an int (the law's own uncode, read, write, code): k is 0 -/
theorem g_ofw {l : Launch} {y : MethodName} {w : List Cond} {rm : Room} {D : va_G} {Z : gZT} {kI : ClassId} {av : List Value} {sz : Nat} {ws : va_W} {S : Type} {post : Int32 → S → Prop} {wo : S → va_W} {mc ms : Nat} {cc : ByteArray} {maxL : Nat} {hs : List (Nat × Nat × Nat × Nat)} (hy : plainName y.cls = true) (hw : w = Cond.codeWith y cc maxL (some .int) hs :: gW) (hlen : (lg_sl av).length ≤ maxL)
    (body : ∀ (p : Program) (e : Env) (s : State) (m : MethodId) (below : List Frame) (meth : Method) (c : Code) (A : Nat → Prop) (Q : State → Prop) (H : Heap) (ls : Array Slot), p.tables.exec = Jvm.exec → c.code = cc → c.maxLocals = maxL → s.vm.findClass y.cls = some m.cls → (∀ q ∈ gW, q.before av.toArray s = true) → (∀ q, s.heap.size ≤ q → A q) → va_K D vwCl (gTys kI) s → gZ Z A s s.heap → va_P D vwCl ws H → va_D A ws → va_S A s.heap H [] → lv_has ls maxL (lv_args 0 av) → c.exceptionTable.toList = tableOf hs →
      (∀ (r : Int32) (u : S) (H : Heap) (locs : List Loc) (ls : Array Slot) (pc : Nat), decode cc pc = .ok (.ireturn, 1) → post r u → va_P D vwCl (wo u) H → va_D A (wo u) → va_S A s.heap H locs → W p l e rm s m av.toArray below meth c H locs mc ms Q (F0 m pc ls [.int r])) →
      W p l e rm s m av.toArray below meth c H [] 0 0 Q (F0 m 0 ls [])) : gMt l y w rm D Z kI av sz ws (fun k r u => k = 0 ∧ post r u) wo mc ms := by
  have hwm : Cond.codeWith y cc maxL (some .int) hs ∈ w := by rw [hw]; exact List.mem_cons_self
  refine MetFree.of_bodyS (code := cc) (maxLocals := maxL) (ret := some .int) hy ?_ ?_
  · intro args s m h hn
    obtain ⟨m', meth, c, hn', h1, h2, h3, h4, -, h5, h6, -⟩ := Cond.codeWith_spec (atoms_spec (ws := w) h _ hwm)
    cases hn.symm.trans hn'
    exact ⟨meth, c, h1, h2, h3, h4, h5, h6⟩
  · intro p e s m args below meth c s₁ B hml hv _
    obtain ⟨rfl, hsz, hP, hK, hD0, hZ⟩ := hv
    subst hsz
    have hh0 : s₁.heap = s.heap := by rw [B.state]; rfl
    have hl := lv_entry av (n := maxL) hlen
    have X := Stand.of_body B
    have htb : c.exceptionTable.toList = tableOf hs := by
      obtain ⟨m', meth', c', hn', h1, h2, -, -, ht, -, -, -⟩ := Cond.codeWith_spec (atoms_spec (ws := w) B.pre _ hwm)
      cases B.named.symm.trans hn'
      cases X.method.symm.trans h1
      cases X.code.symm.trans h2
      rw [← ht, table_eq]
    have K : W p l e rm s m av.toArray below meth c s.heap [] 0 0 (fun t => ∃ o, t.status = .running ∧ Ended t below o ∧ gQt D (va_A ws s.heap.size) wo (fun k r u => k = 0 ∧ post r u) mc ms av.toArray s o t) (entryFrame m av.toArray maxL) := by
      rw [lg_entry_eq]
      refine body p e s m below meth c (va_A ws s.heap.size) _ s.heap _ B.exec B.bytes hml (findClass_of_methodNamed B.named) (fun q h => atoms_spec (ws := w) B.pre q (by rw [hw]; exact List.mem_cons_of_mem _ h)) (fun q h => Or.inr h) hK hZ hP (hD0.self (sz := s.heap.size)) va_S.rf hl htb ?_
      intro r u H locs ls pc hd hp hP hD hS
      refine g_Wmono (W.iret (free := va_A ws s.heap.size) (Qc := fun _ st oc t => ∃ (r : Int32) (u : S), oc = .returned (some (.int r)) ∧ post r u ∧ va_P D vwCl (wo u) t.heap ∧ va_D (va_A ws s.heap.size) (wo u) ∧ va_F (va_A ws s.heap.size) st t) B.exec B.bytes B.returns (fun t ht hW => ⟨r, u, rfl, hp, by rw [ht]; exact hP, hD, hS.F ht⟩) hS.2.2 hd) ?_
      intro t ht
      obtain ⟨o, h1, h2, ⟨r, u, rfl, h3, h4, h5, h6⟩, L, ⟨-, h7, h8⟩, h9⟩ := ht
      exact ⟨_, h1, h2, 0, r, u, L, ⟨rfl, h3⟩, h4, h5, h6, h7, h8, h9, Or.inl ⟨rfl, rfl⟩⟩
    obtain ⟨t, a1, o, b1, b2, b3⟩ := K s₁ hh0 X
    exact ⟨t, o, a1, b1, b2, b3⟩
