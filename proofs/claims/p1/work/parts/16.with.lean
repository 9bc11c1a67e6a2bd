/-! a method with a table of handlers, which always answers an int (the law's own uncode, read, write, code): k is 0 -/
theorem g_ofw {l : Launch} {y : MethodName} {w : List Cond} {rm : Room} {D : va_G} {Z : gZT} {kI : ClassId} {av : List Value} {sz : Nat} {ws : va_W} {S : Type} {post : Int32 → S → Prop} {wo : S → va_W} {mc ms : Nat} {cc : ByteArray} {maxL : Nat} {hs : List (Nat × Nat × Nat × Nat)} (hy : plainName y.cls = true) (hw : w = Cond.codeWith y cc maxL (some .int) hs :: gW) (hlen : (lg_sl av).length ≤ maxL)
    (body : ∀ (p : Program) (e : Env) (s : State) (m : MethodId) (below : List Frame) (meth : Method) (c : Code) (A : Nat → Prop) (Q : State → Prop) (H : Heap) (ls : Array Slot), p.tables.exec = Jvm.exec → c.code = cc → c.maxLocals = maxL → s.vm.findClass y.cls = some m.cls → (∀ q ∈ gW, q.before av.toArray s = true) → (∀ q, s.heap.size ≤ q → A q) → va_K D vwCl (gTys D kI) s → gZ Z A s s.heap → va_P D vwCl ws H → va_D A ws → va_S A s.heap H [] → lv_has ls maxL (lv_args 0 av) → c.exceptionTable.toList = tableOf hs →
      (∀ (r : Int32) (u : S) (H : Heap) (locs : List Loc) (ls : Array Slot) (pc : Nat), decode cc pc = .ok (.ireturn, 1) → post r u → va_P D vwCl (wo u) H → va_D A (wo u) → va_S A s.heap H locs → W p l e rm s m av.toArray below meth c H locs mc ms Q (F0 m pc ls [.int r])) →
      W p l e rm s m av.toArray below meth c H [] 0 0 Q (F0 m 0 ls [])) : gMt l y w rm D Z kI av sz ws (fun k r u => k = 0 ∧ post r u) wo mc ms := by
  have hwm : Cond.codeWith y cc maxL (some .int) hs ∈ w := by rw [hw]; exact List.mem_cons_self
  refine MetFree.of_bodyS (code := cc) (maxLocals := maxL) (ret := some .int) hy ?_ ?_
  · intro args s m h hn
    obtain ⟨m', meth, c, hn', h1, h2, h3, h4, -, h5, h6, -⟩ := Cond.codeWith_spec (atoms_spec (ws := w) h _ hwm)
    cases hn.symm.trans hn'
    exact ⟨meth, c, h1, h2, h3, h4, h5, h6⟩
  · intro p e s m args below meth c s₁ B hml hv _
    obtain ⟨rfl, hsz, hP, hK, hD0, hZ⟩ := hv
    subst hsz
    have hh0 : s₁.heap = s.heap := by rw [B.state]; rfl
    have hl := lv_entry av (n := maxL) hlen
    have X := Stand.of_body B
    have htb : c.exceptionTable.toList = tableOf hs := by
      obtain ⟨m', meth', c', hn', h1, h2, -, -, ht, -, -, -⟩ := Cond.codeWith_spec (atoms_spec (ws := w) B.pre _ hwm)
      cases B.named.symm.trans hn'
      cases X.method.symm.trans h1
      cases X.code.symm.trans h2
      rw [← ht, table_eq]
    have K : W p l e rm s m av.toArray below meth c s.heap [] 0 0 (fun t => ∃ o, t.status = .running ∧ Ended t below o ∧ gQt D (va_A ws s.heap.size) wo (fun k r u => k = 0 ∧ post r u) mc ms av.toArray s o t) (entryFrame m av.toArray maxL) := by
      rw [lg_entry_eq]
      refine body p e s m below meth c (va_A ws s.heap.size) _ s.heap _ B.exec B.bytes hml (findClass_of_methodNamed B.named) (fun q h => atoms_spec (ws := w) B.pre q (by rw [hw]; exact List.mem_cons_of_mem _ h)) (fun q h => Or.inr h) hK hZ hP (hD0.self (sz := s.heap.size)) va_S.rf hl htb ?_
      intro r u H locs ls pc hd hp hP hD hS
      refine g_Wmono (W.iret (free := va_A ws s.heap.size) (Qc := fun _ st oc t => ∃ (r : Int32) (u : S), oc = .returned (some (.int r)) ∧ post r u ∧ va_P D vwCl (wo u) t.heap ∧ va_D (va_A ws s.heap.size) (wo u) ∧ va_F (va_A ws s.heap.size) st t) B.exec B.bytes B.returns (fun t ht hW => ⟨r, u, rfl, hp, by rw [ht]; exact hP, hD, hS.F ht⟩) hS.2.2 hd) ?_
      intro t ht
      obtain ⟨o, h1, h2, ⟨r, u, rfl, h3, h4, h5, h6⟩, L, ⟨-, h7, h8⟩, h9⟩ := ht
      exact ⟨_, h1, h2, 0, r, u, L, ⟨rfl, h3⟩, h4, h5, h6, h7, h8, h9, Or.inl ⟨rfl, rfl⟩⟩
    obtain ⟨t, a1, o, b1, b2, b3⟩ := K s₁ hh0 X
    exact ⟨t, o, a1, b1, b2, b3⟩
section GCallW
variable {p : Program} {l : Launch} {e : Env} {R : Room} {s : State} {m : MethodId} {args : Array Value} {below : List Frame} {meth : Method} {c : Code} {H : Heap} {locs : List Loc} {cells slots : Nat} {Q : State → Prop} {cc : ByteArray} {pc : Nat} {ls : Array Slot} {D : va_G} {Z : gZT} {kI : ClassId} {A : Nat → Prop}
variable {y : MethodName} {wy : List Cond} {rm : Room} {bytes : ByteArray} {maxL nL n index : Nat} {ret : Option FieldType} {Ts : List Cond} {own : String} {As rest st0 : List Value} {ws wc wr : va_W} {mc ms : Nat} {hs : List (Nat × Nat × Nat × Nat)}
/-- what a static call of a method with handlers wants -/
abbrev gCW (R : Room) (s : State) (args : Array Value) (own : String) (index : Nat) (y : MethodName) (bytes : ByteArray) (maxL : Nat) (ret : Option FieldType) (hs : List (Nat × Nat × Nat × Nat)) (ws : List Cond) (rm : Room) (mc ms n : Nat) : Prop :=
  (rm.cells = mc ∧ rm.slots = ms) ∧ (rm.frames + 1 ≤ R.frames ∧ 8 + (maxL + 11) + rm.locals ≤ R.locals) ∧ (∀ w ∈ ws, ∀ (a' : Array Value) (U : State), s.WarmedH U.vm → w.before a' U = true) ∧ Cond.codeWith y bytes maxL ret hs ∈ ws ∧ (Cond.codeWith y bytes maxL ret hs).before args s = true ∧ (Cond.initialized y.cls).before args s = true ∧
    (y.cls ≠ "java/lang/invoke/MethodHandle" ∧ y.cls ≠ "java/lang/invoke/VarHandle") ∧ (∀ sig, parseMethodDescriptor y.desc = some sig → n = sig.parameters.length) ∧ (Cond.methodLink own index y).before args s = true ∧ (Cond.static y).before args s = true
theorem g_Sw {S : Type} {post : Int32 → S → Prop} {wo : S → va_W} (F : CallFix p m c cc nL s args Ts own) (hM : gMt l y wy rm D Z kI As H.size wc (fun k r u => k = 0 ∧ post r u) wo mc ms) (cw : gCW R s args own index y bytes maxL ret hs wy rm mc ms n) (hK : va_K D vwCl (gTys D kI) s) (hZ : gZ Z A s s.heap) (hP : va_P D vwCl ws H) (hD : va_D A ws) (hS : va_S A s.heap H locs) (hA : ∀ q, s.heap.size ≤ q → A q) (isC isR : List Nat)
    (hC : isC.map (fun i => ws[i]?) = wc.map some) (hR : isR.map (fun i => ws[i]?) = wr.map some) (hnC : va_nd isC = true) (hn : va_nd isR = true) (hdis : ∀ i ∈ isR, i ∉ isC) (hln : As.length = n) (hsize : ls.size = nL) (hst : st0 = As.reverse ++ rest) (hW : (rest.map fun v => v.category).sum ≤ 8) (hdg : decode cc pc = .ok (.invokestatic index, 3)) (hf : cells + mc ≤ R.cells ∧ slots + ms ≤ R.slots)
    (kr : ∀ (r : Int32) (u : S) (H1 : Heap) (locs1 : List Loc), post r u → va_P D vwCl (wr ++ wo u) H1 → va_D A (wr ++ wo u) → va_S A s.heap H1 locs1 → W p l e R s m args below meth c H1 locs1 (cells + mc) (slots + ms) Q (F0 m (pc + 3) ls (.int r :: rest))) :
    W p l e R s m args below meth c H locs cells slots Q (F0 m pc ls st0) := by
  obtain ⟨⟨hrmc, hrms⟩, ⟨hfr, hlo⟩, hws, hcw, hcode, hini, hy, hlen, hl, hstat⟩ := cw
  obtain ⟨hx, hb, hml, ho, -⟩ := F
  have hpre := g_pre (av := As) hK hZ hP hD hS hA isC hC hnC
  have hF := va_free (wc := wc) hD hS hA isC hC
  intro T hT X
  obtain ⟨mk, methM, cM, hnamed, hmethM, -, -, -, -, -, -, hsigM⟩ := Cond.codeWith_spec hcode
  have hstatic : methM.isStatic = true := Cond.static_spec hnamed hmethM hstat
  obtain ⟨kP, hkP, -⟩ := className_of_methodNamed hnamed
  have hinitP : kP.init = .initialized := Cond.initialized_spec (findClass_of_methodNamed hnamed) hkP hini
  obtain ⟨vm₁, X₁, hstep₁⟩ := X.invokestatic hx ho hl hnamed hmethM hstatic hkP hinitP hy (g := F0 m pc ls st0) rfl (argsL := As) (rest := rest) (hln.trans (hlen _ hsigM)) hst (by rw [hb]; exact hdg)
  have hdg' : decode c.code pc = .ok (.invokestatic index, 3) := by rw [hb]; exact hdg
  have h : At (T.setVm vm₁) (F0 m pc ls rest).method c below := X₁.here
  have hn' : (T.setVm vm₁).methodNamed? y = some mk := X₁.named hnamed
  have h1 : (headSpec wy rm).pre.before As.toArray (T.setVm vm₁) = true := atoms_intro fun w hw => hws w hw _ _ X₁.warmed
  have h2 : (Cond.codeWith y bytes maxL ret hs).before As.toArray (T.setVm vm₁) = true := hws _ hcw _ _ X₁.warmed
  have h3 : (Cond.initialized y.cls).before As.toArray (T.setVm vm₁) = true := word_at X₁.warmed (Or.inl (by first | rfl | simp [Cond.onTables, Cond.keeps, Cond.steady])) hini
  obtain ⟨mY, methY, cY, hnY, hmY, hcY, -, hlY, -, -, -, -⟩ := Cond.codeWith_spec h2
  cases hn'.symm.trans hnY
  obtain ⟨kY, hkY, -⟩ := className_of_methodNamed hn'
  have hinitY : kY.init = .initialized := Cond.initialized_spec (findClass_of_methodNamed hn') hkY h3
  have hlo' : 8 + (maxL + 11) + (headSpec wy rm).room.locals ≤ R.locals := hlo
  have hm0 : 2 * (F0 m pc ls rest).monitorRoom + ((F0 m pc ls rest).stack.map fun v => v.category).sum ≤ 8 := lv_room hW
  have happ : (headSpec wy rm).appliesLoose y e.platform ((T.setVm vm₁).calling (F0 m pc ls rest) mk As.toArray) = true :=
    Spec.appliesLoose_calling (g := F0 m pc ls rest) h hdg' hn' hkY hinitY
      (X₁.room_calling (g := F0 m pc ls rest) (R' := (headSpec wy rm).room) (hsize.trans hml.symm) hmY hcY hfr (by rw [hlY]; omega) (by rw [show (headSpec wy rm).room.cells = mc from hrmc]; exact hf.1) (by rw [show (headSpec wy rm).room.slots = ms from hrms]; exact hf.2)) h1
  obtain ⟨mid, hmid⟩ := h.above
  have hfrm : ((T.setVm vm₁).setTop (F0 m pc ls rest)).frames = (.java (F0 m pc ls rest) :: mid) ++ below := by rw [State.frames_setTop' (F0 m pc ls rest) h.top, hmid]; rfl
  obtain ⟨o, s₂, hsteps, -, hend, hq⟩ := Steps.callFree hM p X₁.admits X₁.cas X₁.clock (acts := []) hfrm happ (gP_blind _ _ _ _ (hpre (T.setVm vm₁) hT X₁.warmed)) trivial
  have hq' : gQt D (va_A wc H.size) wo (fun k r u => k = 0 ∧ post r u) mc ms As.toArray ((T.setVm vm₁).calling (F0 m pc ls rest) mk As.toArray) o s₂ := hq
  obtain ⟨k, r, u, L, hp, hP1, hD1, hF1, hW2, hsm, hL, ho2⟩ := hq'
  obtain ⟨X', hr, ht⟩ := g_after X₁ (g := F0 m pc ls rest) rfl hdg' hW2 hsm hend
  have hz1 : H.size ≤ s₂.heap.size := by have := hF1.1; rw [← hT]; exact this
  have hk1 : ∀ q : Nat, q < H.size → ¬ va_A wc H.size q → s₂.heap[q]? = H[q]? := by
    intro q hq1 hq2
    have := hF1.2 q (by rw [← hT] at hq1; exact hq1) hq2
    rw [this, ← hT]
    rfl
  obtain ⟨hP2, hD2⟩ := va_join hP hD isC isR hC hR hn hdis hk1 hF hP1 hD1
  have hS2 : va_S A s.heap s₂.heap (locs ++ L) := by
    refine ⟨Nat.le_trans hS.1 hz1, fun q h1 h2 => ?_, fun z hz => ?_⟩
    · rw [hk1 q (Nat.lt_of_lt_of_le h1 hS.1) (fun hh => h2 (hF q hh))]
      exact hS.2.1 q h1 h2
    · rcases List.mem_append.mp hz with hz | hz
      · exact hS.2.2 z hz
      · exact hF _ (hL z hz)
  rcases ho2 with ⟨hk0, hoe⟩ | ⟨hk0, x, ce, hoe, hce, hcv, hcl⟩
  · obtain ⟨t, a1, b1⟩ := kr r u s₂.heap (locs ++ L) hp.2 hP2 hD2 hS2 (({ T.setVm vm₁ with heap := s₂.heap, slotsUsed := s₂.slotsUsed } : State).setVm s₂.vm) rfl X'
    have e9 := hr _ hoe
    have a2 : Steps p.tables e below s₂ t := (congrArg (fun z => Steps p.tables e below z t) e9).mpr a1
    exact ⟨t, hstep₁ _ fun acts => by rw [doInvoke_state]; exact hsteps.trans a2, b1⟩
  · exact absurd hp.1 hk0
end GCallW
