/-! a call of a method that answers or throws (after the library's Back.of_free, with one outcome more) -/
section GCallT
variable {p : Program} {l : Launch} {e : Env} {R : Room} {s : State} {m : MethodId} {args : Array Value} {below : List Frame} {meth : Method} {c : Code} {H : Heap} {locs : List Loc} {cells slots : Nat} {Q : State → Prop} {cc : ByteArray} {pc : Nat} {ls : Array Slot} {D : va_G} {Z : gZT} {kI : ClassId} {A : Nat → Prop}
variable {y : MethodName} {wy : List Cond} {rm : Room} {bytes : ByteArray} {maxL nL n index : Nat} {ret : Option FieldType} {Ts : List Cond} {own C : String} {b : Nat} {As rest st0 : List Value} {ws wc wr : va_W} {mc ms : Nat}
/-- behind a call that ended so: the machine stands again, in the frame behind the call or with the exception over the frame -/
theorem g_after {U s₂ : State} {g : JFrame} {mk : MethodId} {av : Array Value} {L : List Loc} {k9 n9 len : Nat} {ig : Instr} {o : Outcome} (X : Stand p l e R s m args below meth c U locs cells slots) (hg : g.method = m) (hdg : decode c.code g.pc = .ok (ig, len))
    (hW : (U.calling g mk av).WarmedH s₂.vm) (hsm : (U.calling g mk av).sameButNew ({ s₂ with vm := (U.calling g mk av).vm } : State) L k9 n9) (hend : Ended s₂ (U.setTop g).frames o) :
    Stand p l e R s m args below meth c (({ U with heap := s₂.heap, slotsUsed := s₂.slotsUsed } : State).setVm s₂.vm) (locs ++ L) (cells + k9) (slots + n9) ∧
      (∀ v, o = .returned v → s₂ = (({ U with heap := s₂.heap, slotsUsed := s₂.slotsUsed } : State).setVm s₂.vm).setTop { g with pc := g.pc + len, stack := v.toList ++ g.stack }) ∧
      (∀ x, o = .threw x → s₂ = ((({ U with heap := s₂.heap, slotsUsed := s₂.slotsUsed } : State).setVm s₂.vm).setTop g).pushFrame (.throwing x)) := by
  subst hg
  have h : At U g.method c below := X.here
  obtain ⟨e2, q2, q3, q4, q5, q6⟩ := id hsm
  have e3 : s₂ = ({ (U.calling g mk av).setFrames s₂.frames with heap := s₂.heap, slotsUsed := s₂.slotsUsed } : State).setVm s₂.vm := by
    have : s₂ = ({ s₂ with vm := (U.calling g mk av).vm } : State).setVm s₂.vm := rfl
    rw [e2] at this
    exact this
  have hW' : U.WarmedH s₂.vm := hW
  obtain ⟨g₀, hg0⟩ := Option.isSome_iff_exists.mp h.top
  obtain ⟨r, hr⟩ := State.topJava?_eq_some.mp hg0
  have hr' : (({ U with heap := s₂.heap, slotsUsed := s₂.slotsUsed } : State).setVm s₂.vm).frames = .java g₀ :: r := hr
  have hsame : U.sameButNew ({ U with heap := s₂.heap, slotsUsed := s₂.slotsUsed } : State) L k9 n9 := by
    refine ⟨?_, q2, q3, q4, q5, q6⟩
    obtain ⟨t, ht, -⟩ := State.frames_cons hr
    show ({ U with heap := s₂.heap, slotsUsed := s₂.slotsUsed } : State) = { U.setFrames U.frames with heap := s₂.heap, slotsUsed := s₂.slotsUsed }
    rw [State.setFrames_self ht]
  refine ⟨⟨X.admits, X.cas, X.clock, X.frames, X.room, X.hears, X.method, X.code, (X.here.setHeapUsed s₂.heap s₂.slotsUsed).setVm hW'.alike, X.tail, State.WarmedH.trans X.warmed hW', X.limits, X.bytes, X.same.trans (hsame.setVm s.vm)⟩, ?_, ?_⟩
  · intro v ho
    subst ho
    rw [State.frames_setTop' g h.top] at hend
    obtain ⟨c₂, i₂, len₂, hc₂, hd₂, hf₂⟩ := hend
    have hcc : c₂ = c := by
      have h1 : s₂.code? g.method = U.code? g.method := by rw [State.code?_eq, State.code?_eq, hW'.alike.method?]
      exact Option.some.inj (hc₂.symm.trans (h1.trans h.code))
    subst hcc
    have hlen : len₂ = len := by rw [hdg] at hd₂; cases hd₂; rfl
    subst hlen
    refine e3.trans ?_
    rw [hf₂, State.calling_eq h.top, State.setFrames_setFrames, State.setTop_of_frames _ hr', hr]
    rfl
  · intro x ho
    subst ho
    have hf₂ : s₂.frames = .throwing x :: (U.setTop g).frames := hend
    refine e3.trans ?_
    rw [hf₂, State.frames_setTop _ hr, State.calling_eq h.top, State.setFrames_setFrames, State.pushFrame, State.frames_setTop _ hr', State.setTop_of_frames _ hr', State.setFrames_setFrames]
    rfl
theorem g_Vt {S : Type} {post : Int32 → Int32 → S → Prop} {wo : S → va_W} (F : CallFix p m c cc nL s args Ts own) (hM : gMt l y wy rm D Z kI (.ref b :: As) H.size wc post wo mc ms) (cw : CallW R s args own C index y bytes maxL ret wy rm mc ms n) (hK : va_K D vwCl (gTys D kI) s) (hZ : gZ Z A s s.heap) (hP : va_P D vwCl ws H) (hD : va_D A ws) (hS : va_S A s.heap H locs) (hA : ∀ q, s.heap.size ≤ q → A q) (isC isR : List Nat)
    (hrc : ∃ cell : Cell, H[b]? = some cell ∧ cell.vm.isStatics = false ∧ s.vm.findClass C = some cell.cls) (hC : isC.map (fun i => ws[i]?) = wc.map some) (hR : isR.map (fun i => ws[i]?) = wr.map some) (hnC : va_nd isC = true) (hn : va_nd isR = true) (hdis : ∀ i ∈ isR, i ∉ isC) (hln : As.length = n) (hsize : ls.size = nL) (hst : st0 = As.reverse ++ .ref b :: rest) (hW : (rest.map fun v => v.category).sum ≤ 8) (hdg : decode cc pc = .ok (.invokevirtual index, 3)) (hf : cells + mc ≤ R.cells ∧ slots + ms ≤ R.slots)
    (kr : ∀ (r : Int32) (u : S) (H1 : Heap) (locs1 : List Loc), post 0 r u → va_P D vwCl (wr ++ wo u) H1 → va_D A (wr ++ wo u) → va_S A s.heap H1 locs1 → W p l e R s m args below meth c H1 locs1 (cells + mc) (slots + ms) Q (F0 m (pc + 3) ls (.int r :: rest)))
    (kt : ∀ (k : Int32) (u : S) (x : Nat) (ce : Cell) (H1 : Heap) (locs1 : List Loc) (r : Int32), ¬ k = 0 → post k r u → va_P D vwCl (wr ++ wo u) H1 → va_D A (wr ++ wo u) → va_S A s.heap H1 locs1 → H1[x]? = some ce → ce.vm = .none → s.vm.findClass (gE k) = some ce.cls → ∀ T' : State, T'.heap = H1 → Stand p l e R s m args below meth c T' locs1 (cells + mc) (slots + ms) → ∃ t, Steps p.tables e below ((T'.setTop (F0 m pc ls rest)).pushFrame (.throwing x)) t ∧ Q t) :
    W p l e R s m args below meth c H locs cells slots Q (F0 m pc ls st0) := by
  obtain ⟨⟨hrmc, hrms, hfr, hlo, hws, hcw, hcode, hini, hy, hlen, hl⟩, hin, hse⟩ := cw
  obtain ⟨hx, hb, hml, ho, -⟩ := F
  have hpre := g_pre (av := .ref b :: As) hK hZ hP hD hS hA isC hC hnC
  have hF := va_free (wc := wc) hD hS hA isC hC
  intro T hT X
  obtain ⟨cellB, hcB, hoB, hclB⟩ := hrc
  obtain ⟨mk, methM, hnamed, hmethM, hstM, habM⟩ := Cond.instanceMethod_spec hin
  obtain ⟨methM', cM, hmethM', -, -, -, -, -, -, hsigM⟩ := Cond.code_spec hnamed hcode
  cases hmethM.symm.trans hmethM'
  obtain ⟨c2, r2, m2, q1, q2, q3, q4, kP, hkP, hkPi⟩ := Cond.selects_spec hse
  cases hclB.symm.trans q1
  cases (State.methodFound?_of_named hnamed hy).symm.trans q2
  cases hnamed.symm.trans q3
  have hselP : selectMethod e.platform s.vm cellB.cls mk = .method mk := by rw [Launch.admits_selectMethod X.admits]; exact q4
  obtain ⟨vm₁, X₁, hstep₁⟩ := X.invokevirtual hx ho hl hnamed hmethM hstM hkP hkPi hy (a := b) (cell := cellB) (by rw [hT]; exact hcB)
    (fun z h => by rw [h] at hoB; cases hoB) hselP hmethM habM hkP hkPi (g := F0 m pc ls st0) rfl (argsL := As) (rest := rest) (hln.trans (hlen _ hsigM)) hst (by rw [hb]; exact hdg)
  have hdg' : decode c.code pc = .ok (.invokevirtual index, 3) := by rw [hb]; exact hdg
  have h : At (T.setVm vm₁) (F0 m pc ls rest).method c below := X₁.here
  have hn' : (T.setVm vm₁).methodNamed? y = some mk := X₁.named hnamed
  have h1 : (headSpec wy rm).pre.before (Value.ref b :: As).toArray (T.setVm vm₁) = true := atoms_intro fun w hw => hws w hw _ _ X₁.warmed
  have h2 : (Cond.code y bytes maxL ret).before (Value.ref b :: As).toArray (T.setVm vm₁) = true := hws _ hcw _ _ X₁.warmed
  have h3 : (Cond.initialized y.cls).before (Value.ref b :: As).toArray (T.setVm vm₁) = true := word_at X₁.warmed (Or.inl (by first | rfl | simp [Cond.onTables, Cond.keeps, Cond.steady])) hini
  obtain ⟨methY, cY, hmY, hcY, -, hlY, -, -, -, -⟩ := Cond.code_spec hn' h2
  obtain ⟨kY, hkY, -⟩ := className_of_methodNamed hn'
  have hinitY : kY.init = .initialized := Cond.initialized_spec (findClass_of_methodNamed hn') hkY h3
  have hlo' : 8 + (maxL + 11) + (headSpec wy rm).room.locals ≤ R.locals := hlo
  have hm0 : 2 * (F0 m pc ls rest).monitorRoom + ((F0 m pc ls rest).stack.map fun v => v.category).sum ≤ 8 := lv_room hW
  have happ : (headSpec wy rm).appliesLoose y e.platform ((T.setVm vm₁).calling (F0 m pc ls rest) mk (Value.ref b :: As).toArray) = true :=
    Spec.appliesLoose_calling (g := F0 m pc ls rest) h hdg' hn' hkY hinitY
      (X₁.room_calling (g := F0 m pc ls rest) (R' := (headSpec wy rm).room) (hsize.trans hml.symm) hmY hcY hfr (by rw [hlY]; omega) (by rw [show (headSpec wy rm).room.cells = mc from hrmc]; exact hf.1) (by rw [show (headSpec wy rm).room.slots = ms from hrms]; exact hf.2)) h1
  obtain ⟨mid, hmid⟩ := h.above
  have hfrm : ((T.setVm vm₁).setTop (F0 m pc ls rest)).frames = (.java (F0 m pc ls rest) :: mid) ++ below := by rw [State.frames_setTop' (F0 m pc ls rest) h.top, hmid]; rfl
  obtain ⟨o, s₂, hsteps, -, hend, hq⟩ := Steps.callFree hM p X₁.admits X₁.cas X₁.clock (acts := []) hfrm happ (gP_blind _ _ _ _ (hpre (T.setVm vm₁) hT X₁.warmed)) trivial
  have hq' : gQt D (va_A wc H.size) wo post mc ms (Value.ref b :: As).toArray ((T.setVm vm₁).calling (F0 m pc ls rest) mk (Value.ref b :: As).toArray) o s₂ := hq
  obtain ⟨k, r, u, L, hp, hP1, hD1, hF1, hW2, hsm, hL, ho2⟩ := hq'
  obtain ⟨X', hr, ht⟩ := g_after X₁ (g := F0 m pc ls rest) rfl hdg' hW2 hsm hend
  have hz1 : H.size ≤ s₂.heap.size := by have := hF1.1; rw [← hT]; exact this
  have hk1 : ∀ q : Nat, q < H.size → ¬ va_A wc H.size q → s₂.heap[q]? = H[q]? := by
    intro q hq1 hq2
    have := hF1.2 q (by rw [← hT] at hq1; exact hq1) hq2
    rw [this, ← hT]
    rfl
  obtain ⟨hP2, hD2⟩ := va_join hP hD isC isR hC hR hn hdis hk1 hF hP1 hD1
  have hS2 : va_S A s.heap s₂.heap (locs ++ L) := by
    refine ⟨Nat.le_trans hS.1 hz1, fun q h1 h2 => ?_, fun z hz => ?_⟩
    · rw [hk1 q (Nat.lt_of_lt_of_le h1 hS.1) (fun hh => h2 (hF q hh))]
      exact hS.2.1 q h1 h2
    · rcases List.mem_append.mp hz with hz | hz
      · exact hS.2.2 z hz
      · exact hF _ (hL z hz)
  rcases ho2 with ⟨hk0, hoe⟩ | ⟨hk0, x, ce, hoe, hce, hcv, hcl⟩
  · subst hk0
    obtain ⟨t, a1, b1⟩ := kr r u s₂.heap (locs ++ L) hp hP2 hD2 hS2 (({ T.setVm vm₁ with heap := s₂.heap, slotsUsed := s₂.slotsUsed } : State).setVm s₂.vm) rfl X'
    have e9 := hr _ hoe
    have a2 : Steps p.tables e below s₂ t := (congrArg (fun z => Steps p.tables e below z t) e9).mpr a1
    exact ⟨t, hstep₁ _ fun acts => by rw [doInvoke_state]; exact hsteps.trans a2, b1⟩
  · obtain ⟨t, a1, b1⟩ := kt k u x ce s₂.heap (locs ++ L) r hk0 hp hP2 hD2 hS2 hce hcv (by have h9 := hcl; rw [← X₁.warmed.alike.findClass]; exact h9) (({ T.setVm vm₁ with heap := s₂.heap, slotsUsed := s₂.slotsUsed } : State).setVm s₂.vm) rfl X'
    have e9 := ht _ hoe
    have a2 : Steps p.tables e below s₂ t := (congrArg (fun z => Steps p.tables e below z t) e9).mpr a1
    exact ⟨t, hstep₁ _ fun acts => by rw [doInvoke_state]; exact hsteps.trans a2, b1⟩
end GCallT
