/-! G: one form for all contracts: a start gP, an end gB, a rule for a body (g_of..), a rule for a call (g_V.., g_S..). A contract's mirror function says what it answers. -/
/-- a row of numbers: the array f holds the list l -/
def g_rw (n : Nat) (f : Nat → Int32) (l : List Int32) : Prop := l.length ≤ n ∧ n ≤ 3000 ∧ ∀ i, i < l.length → f i = l.getD i 0
/-- classes of arrays: int; byte and long stand in D beyond the numbers of vwCl -/
abbrev gTys (D : va_G) (kI : ClassId) : List (ClassId × FieldType) := [(kI, .int), (D.1 100, .byte), (D.1 101, .long)]
def gP (D : va_G) (Z : gZT) (kI : ClassId) (av : List Value) (sz : Nat) (ws : va_W) : Array Value → State → Prop :=
  va_Pc av (fun U => U.heap.size = sz ∧ va_P D vwCl ws U.heap ∧ va_K D vwCl (gTys D kI) U ∧ va_D (fun _ => True) ws ∧ gZ Z (va_A ws sz) U U.heap)
def gB {S : Type} (D : va_G) (A : Nat → Prop) (wo : S → va_W) : S → State → Prop := fun u t => va_P D vwCl (wo u) t.heap ∧ va_D A (wo u)
abbrev gMi {S : Type} (l : Launch) (y : MethodName) (w : List Cond) (rm : Room) (D : va_G) (Z : gZT) (kI : ClassId) (av : List Value) (sz : Nat) (ws : va_W) (post : Int32 → S → Prop) (wo : S → va_W) : Prop :=
  Met l y w rm (gP D Z kI av sz ws) (va_Qi post (gB D (va_A ws sz) wo) (va_A ws sz)) 0 0 (va_A ws sz)
abbrev gMv {S : Type} (l : Launch) (y : MethodName) (w : List Cond) (rm : Room) (D : va_G) (Z : gZT) (kI : ClassId) (av : List Value) (sz : Nat) (ws : va_W) (post : S → Prop) (wo : S → va_W) : Prop :=
  Met l y w rm (gP D Z kI av sz ws) (va_Qv post (gB D (va_A ws sz) wo) (va_A ws sz)) 0 0 (va_A ws sz)
theorem g_fm {α : Type} {ws : List α} : ∀ (is : List Nat) (wc : List α), is.map (fun i => ws[i]?) = wc.map some → is.filterMap (fun i => ws[i]?) = wc := by
  intro is
  induction is with
  | nil => intro wc h; cases wc with
    | nil => rfl
    | cons a b => simp at h
  | cons i is ih => intro wc h; cases wc with
    | nil => simp at h
    | cons a b =>
      simp only [List.map_cons, List.cons.injEq] at h
      rw [List.filterMap_cons, h.1]
      simp only [ih b h.2]
theorem gP_blind {D : va_G} {Z : gZT} {kI : ClassId} {av : List Value} {sz : Nat} {ws : va_W} : FrameBlind (gP D Z kI av sz ws) := by
  intro a U g mk q
  obtain ⟨q0, q1, qP, qK, qD, qZ⟩ := q
  exact ⟨q0, q1, qP, va_K.moved (u := U) (U := U.calling g mk a) (Vm.Alike.refl U.vm) qK, qD, qZ.same rfl⟩
section GCalls
variable {p : Program} {l : Launch} {e : Env} {R : Room} {s : State} {m : MethodId} {args : Array Value} {below : List Frame} {meth : Method} {c : Code} {H : Heap} {locs : List Loc} {cells slots : Nat} {Q : State → Prop} {cc : ByteArray} {pc : Nat} {ls : Array Slot} {D : va_G} {Z : gZT} {kI : ClassId} {A : Nat → Prop}
theorem g_recv {a q0 ci : Nat} {q : vw_C} {fs : List Value} {ws : va_W} (hK : va_K D vwCl (gTys D kI) s) (hP : va_P D vwCl ws H) (hc : vwCl[ci]? = some q) (he : ws[q0]? = some (a, .inr (ci, fs))) : ∃ cell : Cell, H[a]? = some cell ∧ cell.vm.isStatics = false ∧ s.vm.findClass q.1 = some cell.cls := va_recv hK hP hc he
/-- a callee's start out of the caller's world -/
theorem g_pre {ws wc : va_W} {av : List Value} (hK : va_K D vwCl (gTys D kI) s) (hZ : gZ Z A s s.heap) (hP : va_P D vwCl ws H) (hD : va_D A ws) (hS : va_S A s.heap H locs) (hA : ∀ q, s.heap.size ≤ q → A q) (isC : List Nat) (hC : isC.map (fun i => ws[i]?) = wc.map some) (hnC : va_nd isC = true) :
    ∀ U : State, U.heap = H → s.WarmedH U.vm → gP D Z kI av H.size wc av.toArray U := by
  intro U hU hW
  have hF := va_free (wc := wc) hD hS hA isC hC
  exact ⟨rfl, by rw [hU], by rw [hU]; exact hP.sub isC (g_fm isC wc hC), va_K.moved hW.alike hK, (hD.sub isC hnC hC).weaken (fun _ _ _ _ => trivial), by
    rw [hU]
    exact ((hZ.kept hS.2.1).narrow hF).warm hW⟩
theorem g_run_i {S : Type} {post : Int32 → S → Prop} {wo : S → va_W} {ws wc wr : va_W} {rest st0 : List Value} {a : Array Value} (hP : va_P D vwCl ws H) (hD : va_D A ws) (hS : va_S A s.heap H locs) (hA : ∀ q, s.heap.size ≤ q → A q) (isC isR : List Nat) (hC : isC.map (fun i => ws[i]?) = wc.map some) (hR : isR.map (fun i => ws[i]?) = wr.map some) (hn : va_nd isR = true) (hdis : ∀ i ∈ isR, i ∉ isC)
    (hr : va_Run p l e R s m args below meth c H locs cells slots 0 0 (F0 m pc ls st0) rest (va_Qi post (gB D (va_A wc H.size) wo) (va_A wc H.size) a) (va_A wc H.size))
    (kk : ∀ (r : Int32) (u : S) (H1 : Heap) (locs1 : List Loc), post r u → va_P D vwCl (wr ++ wo u) H1 → va_D A (wr ++ wo u) → va_S A s.heap H1 locs1 → W p l e R s m args below meth c H1 locs1 cells slots Q (F0 m (pc + 3) ls (.int r :: rest))) : W p l e R s m args below meth c H locs cells slots Q (F0 m pc ls st0) := by
  have hF := va_free (wc := wc) hD hS hA isC hC
  refine va_calli hr hS (fun q _ h => hF q h) hF (fun r u t H1 locs1 ht hvm hw hB hz1 hk1 hS1 => ?_)
  obtain ⟨hP1, hD1⟩ := hB
  rw [ht] at hP1
  obtain ⟨hP2, hD2⟩ := va_join hP hD isC isR hC hR hn hdis hk1 hF hP1 hD1
  exact kk r u H1 locs1 hw hP2 hD2 hS1
theorem g_run_v {S : Type} {post : S → Prop} {wo : S → va_W} {ws wc wr : va_W} {rest st0 : List Value} {a : Array Value} (hP : va_P D vwCl ws H) (hD : va_D A ws) (hS : va_S A s.heap H locs) (hA : ∀ q, s.heap.size ≤ q → A q) (isC isR : List Nat) (hC : isC.map (fun i => ws[i]?) = wc.map some) (hR : isR.map (fun i => ws[i]?) = wr.map some) (hn : va_nd isR = true) (hdis : ∀ i ∈ isR, i ∉ isC)
    (hr : va_Run p l e R s m args below meth c H locs cells slots 0 0 (F0 m pc ls st0) rest (va_Qv post (gB D (va_A wc H.size) wo) (va_A wc H.size) a) (va_A wc H.size))
    (kk : ∀ (u : S) (H1 : Heap) (locs1 : List Loc), post u → va_P D vwCl (wr ++ wo u) H1 → va_D A (wr ++ wo u) → va_S A s.heap H1 locs1 → W p l e R s m args below meth c H1 locs1 cells slots Q (F0 m (pc + 3) ls rest)) : W p l e R s m args below meth c H locs cells slots Q (F0 m pc ls st0) := by
  have hF := va_free (wc := wc) hD hS hA isC hC
  refine va_callv hr hS (fun q _ h => hF q h) hF (fun u t H1 locs1 ht hvm hw hB hz1 hk1 hS1 => ?_)
  obtain ⟨hP1, hD1⟩ := hB
  rw [ht] at hP1
  obtain ⟨hP2, hD2⟩ := va_join hP hD isC isR hC hR hn hdis hk1 hF hP1 hD1
  exact kk u H1 locs1 hw hP2 hD2 hS1
variable {y : MethodName} {wy : List Cond} {rm : Room} {bytes : ByteArray} {maxL nL n index : Nat} {ret : Option FieldType} {Ts : List Cond} {own C : String} {b : Nat} {As rest st0 : List Value} {ws wc wr : va_W}
theorem g_Vi {S : Type} {post : Int32 → S → Prop} {wo : S → va_W} (F : CallFix p m c cc nL s args Ts own) (hM : gMi l y wy rm D Z kI (.ref b :: As) H.size wc post wo) (cw : CallW R s args own C index y bytes maxL ret wy rm 0 0 n) (hK : va_K D vwCl (gTys D kI) s) (hZ : gZ Z A s s.heap) (hP : va_P D vwCl ws H) (hD : va_D A ws) (hS : va_S A s.heap H locs) (hA : ∀ q, s.heap.size ≤ q → A q) (isC isR : List Nat)
    (hrc : ∃ cell : Cell, H[b]? = some cell ∧ cell.vm.isStatics = false ∧ s.vm.findClass C = some cell.cls) (hC : isC.map (fun i => ws[i]?) = wc.map some) (hR : isR.map (fun i => ws[i]?) = wr.map some) (hnC : va_nd isC = true) (hn : va_nd isR = true) (hdis : ∀ i ∈ isR, i ∉ isC) (hln : As.length = n) (hsize : ls.size = nL) (hst : st0 = As.reverse ++ .ref b :: rest) (hW : (rest.map fun v => v.category).sum ≤ 8) (hdg : decode cc pc = .ok (.invokevirtual index, 3)) (hf : cells ≤ R.cells ∧ slots ≤ R.slots)
    (kk : ∀ (r : Int32) (u : S) (H1 : Heap) (locs1 : List Loc), post r u → va_P D vwCl (wr ++ wo u) H1 → va_D A (wr ++ wo u) → va_S A s.heap H1 locs1 → W p l e R s m args below meth c H1 locs1 cells slots Q (F0 m (pc + 3) ls (.int r :: rest))) : W p l e R s m args below meth c H locs cells slots Q (F0 m pc ls st0) :=
  g_run_i hP hD hS hA isC isR hC hR hn hdis (va_runV (g := F0 m pc ls st0) F hM cw ⟨gP_blind, hrc, g_pre hK hZ hP hD hS hA isC hC hnC⟩ rfl hln hsize hst (lv_room hW) hdg hf) kk
theorem g_Vv {S : Type} {post : S → Prop} {wo : S → va_W} (F : CallFix p m c cc nL s args Ts own) (hM : gMv l y wy rm D Z kI (.ref b :: As) H.size wc post wo) (cw : CallW R s args own C index y bytes maxL ret wy rm 0 0 n) (hK : va_K D vwCl (gTys D kI) s) (hZ : gZ Z A s s.heap) (hP : va_P D vwCl ws H) (hD : va_D A ws) (hS : va_S A s.heap H locs) (hA : ∀ q, s.heap.size ≤ q → A q) (isC isR : List Nat)
    (hrc : ∃ cell : Cell, H[b]? = some cell ∧ cell.vm.isStatics = false ∧ s.vm.findClass C = some cell.cls) (hC : isC.map (fun i => ws[i]?) = wc.map some) (hR : isR.map (fun i => ws[i]?) = wr.map some) (hnC : va_nd isC = true) (hn : va_nd isR = true) (hdis : ∀ i ∈ isR, i ∉ isC) (hln : As.length = n) (hsize : ls.size = nL) (hst : st0 = As.reverse ++ .ref b :: rest) (hW : (rest.map fun v => v.category).sum ≤ 8) (hdg : decode cc pc = .ok (.invokevirtual index, 3)) (hf : cells ≤ R.cells ∧ slots ≤ R.slots)
    (kk : ∀ (u : S) (H1 : Heap) (locs1 : List Loc), post u → va_P D vwCl (wr ++ wo u) H1 → va_D A (wr ++ wo u) → va_S A s.heap H1 locs1 → W p l e R s m args below meth c H1 locs1 cells slots Q (F0 m (pc + 3) ls rest)) : W p l e R s m args below meth c H locs cells slots Q (F0 m pc ls st0) :=
  g_run_v hP hD hS hA isC isR hC hR hn hdis (va_runV (g := F0 m pc ls st0) F hM cw ⟨gP_blind, hrc, g_pre hK hZ hP hD hS hA isC hC hnC⟩ rfl hln hsize hst (lv_room hW) hdg hf) kk
theorem g_Si {S : Type} {post : Int32 → S → Prop} {wo : S → va_W} (F : CallFix p m c cc nL s args Ts own) (hM : gMi l y wy rm D Z kI As H.size wc post wo) (cw : CallB R s args own index y bytes maxL ret wy rm 0 0 n ∧ (Cond.static y).before args s = true) (hK : va_K D vwCl (gTys D kI) s) (hZ : gZ Z A s s.heap) (hP : va_P D vwCl ws H) (hD : va_D A ws) (hS : va_S A s.heap H locs) (hA : ∀ q, s.heap.size ≤ q → A q) (isC isR : List Nat)
    (hC : isC.map (fun i => ws[i]?) = wc.map some) (hR : isR.map (fun i => ws[i]?) = wr.map some) (hnC : va_nd isC = true) (hn : va_nd isR = true) (hdis : ∀ i ∈ isR, i ∉ isC) (hln : As.length = n) (hsize : ls.size = nL) (hst : st0 = As.reverse ++ rest) (hW : (rest.map fun v => v.category).sum ≤ 8) (hdg : decode cc pc = .ok (.invokestatic index, 3)) (hf : cells ≤ R.cells ∧ slots ≤ R.slots)
    (kk : ∀ (r : Int32) (u : S) (H1 : Heap) (locs1 : List Loc), post r u → va_P D vwCl (wr ++ wo u) H1 → va_D A (wr ++ wo u) → va_S A s.heap H1 locs1 → W p l e R s m args below meth c H1 locs1 cells slots Q (F0 m (pc + 3) ls (.int r :: rest))) : W p l e R s m args below meth c H locs cells slots Q (F0 m pc ls st0) :=
  g_run_i hP hD hS hA isC isR hC hR hn hdis (va_runS (g := F0 m pc ls st0) F hM cw ⟨gP_blind, g_pre hK hZ hP hD hS hA isC hC hnC⟩ rfl hln hsize hst (lv_room hW) hdg hf) kk
theorem g_Sv {S : Type} {post : S → Prop} {wo : S → va_W} (F : CallFix p m c cc nL s args Ts own) (hM : gMv l y wy rm D Z kI As H.size wc post wo) (cw : CallB R s args own index y bytes maxL ret wy rm 0 0 n ∧ (Cond.static y).before args s = true) (hK : va_K D vwCl (gTys D kI) s) (hZ : gZ Z A s s.heap) (hP : va_P D vwCl ws H) (hD : va_D A ws) (hS : va_S A s.heap H locs) (hA : ∀ q, s.heap.size ≤ q → A q) (isC isR : List Nat)
    (hC : isC.map (fun i => ws[i]?) = wc.map some) (hR : isR.map (fun i => ws[i]?) = wr.map some) (hnC : va_nd isC = true) (hn : va_nd isR = true) (hdis : ∀ i ∈ isR, i ∉ isC) (hln : As.length = n) (hsize : ls.size = nL) (hst : st0 = As.reverse ++ rest) (hW : (rest.map fun v => v.category).sum ≤ 8) (hdg : decode cc pc = .ok (.invokestatic index, 3)) (hf : cells ≤ R.cells ∧ slots ≤ R.slots)
    (kk : ∀ (u : S) (H1 : Heap) (locs1 : List Loc), post u → va_P D vwCl (wr ++ wo u) H1 → va_D A (wr ++ wo u) → va_S A s.heap H1 locs1 → W p l e R s m args below meth c H1 locs1 cells slots Q (F0 m (pc + 3) ls rest)) : W p l e R s m args below meth c H locs cells slots Q (F0 m pc ls st0) :=
  g_run_v hP hD hS hA isC isR hC hR hn hdis (va_runS (g := F0 m pc ls st0) F hM cw ⟨gP_blind, g_pre hK hZ hP hD hS hA isC hC hnC⟩ rfl hln hsize hst (lv_room hW) hdg hf) kk
end GCalls
/-- a body with an int (or a boolean) as its answer -/
theorem g_ofi {l : Launch} {y : MethodName} {w : List Cond} {rm : Room} {D : va_G} {Z : gZT} {kI : ClassId} {av : List Value} {sz : Nat} {ws : va_W} {S : Type} {post : Int32 → S → Prop} {wo : S → va_W} {cc : ByteArray} {maxL : Nat} {ty : FieldType} (hy : plainName y.cls = true) (hw : w = Cond.code y cc maxL (some ty) :: gW) (hlen : (lg_sl av).length ≤ maxL)
    (body : ∀ (p : Program) (e : Env) (s : State) (m : MethodId) (below : List Frame) (meth : Method) (c : Code) (A : Nat → Prop) (Q : State → Prop) (H : Heap) (ls : Array Slot), p.tables.exec = Jvm.exec → c.code = cc → c.maxLocals = maxL → s.vm.findClass y.cls = some m.cls → (∀ q ∈ gW, q.before av.toArray s = true) → (∀ q, s.heap.size ≤ q → A q) → va_K D vwCl (gTys D kI) s → gZ Z A s s.heap → va_P D vwCl ws H → va_D A ws → va_S A s.heap H [] → lv_has ls maxL (lv_args 0 av) →
      (∀ (r : Int32) (u : S) (H : Heap) (locs : List Loc) (ls : Array Slot) (pc : Nat), decode cc pc = .ok (.ireturn, 1) → narrow ty (.int r) = .int r → post r u → va_P D vwCl (wo u) H → va_D A (wo u) → va_S A s.heap H locs → W p l e rm s m av.toArray below meth c H locs 0 0 Q (F0 m pc ls [.int r])) →
      W p l e rm s m av.toArray below meth c H [] 0 0 Q (F0 m 0 ls [])) : gMi l y w rm D Z kI av sz ws post wo := by
  refine Met.ofW (cc := cc) (maxL := maxL) (ret := some ty) hy hw ?_
  intro p e s m args below meth c s₁ B hml hv
  obtain ⟨rfl, hsz, hP, hK, hD0, hZ⟩ := hv
  subst hsz
  have hl := lv_entry av (n := maxL) hlen
  rw [lg_entry_eq]
  refine body p e s m below meth c (va_A ws s.heap.size) _ s.heap _ B.exec B.bytes hml (findClass_of_methodNamed B.named) (fun q h => atoms_spec (ws := w) B.pre q (by rw [hw]; exact List.mem_cons_of_mem _ h)) (fun q h => Or.inr h) hK hZ hP (hD0.self (sz := s.heap.size)) va_S.rf hl ?_
  intro r u H locs ls pc hd hnr hp hP hD hS
  exact W.zret B.exec B.bytes B.returns hnr (fun t ht hW => ⟨⟨r, u, rfl, hp, by rw [ht]; exact hP, hD⟩, hS.F ht⟩) hS.2.2 hd
theorem g_ofv {l : Launch} {y : MethodName} {w : List Cond} {rm : Room} {D : va_G} {Z : gZT} {kI : ClassId} {av : List Value} {sz : Nat} {ws : va_W} {S : Type} {post : S → Prop} {wo : S → va_W} {cc : ByteArray} {maxL : Nat} (hy : plainName y.cls = true) (hw : w = Cond.code y cc maxL none :: gW) (hlen : (lg_sl av).length ≤ maxL)
    (body : ∀ (p : Program) (e : Env) (s : State) (m : MethodId) (below : List Frame) (meth : Method) (c : Code) (A : Nat → Prop) (Q : State → Prop) (H : Heap) (ls : Array Slot), p.tables.exec = Jvm.exec → c.code = cc → c.maxLocals = maxL → s.vm.findClass y.cls = some m.cls → (∀ q ∈ gW, q.before av.toArray s = true) → (∀ q, s.heap.size ≤ q → A q) → va_K D vwCl (gTys D kI) s → gZ Z A s s.heap → va_P D vwCl ws H → va_D A ws → va_S A s.heap H [] → lv_has ls maxL (lv_args 0 av) →
      (∀ (u : S) (H : Heap) (locs : List Loc) (ls : Array Slot) (pc : Nat), decode cc pc = .ok (.return_, 1) → post u → va_P D vwCl (wo u) H → va_D A (wo u) → va_S A s.heap H locs → W p l e rm s m av.toArray below meth c H locs 0 0 Q (F0 m pc ls [])) →
      W p l e rm s m av.toArray below meth c H [] 0 0 Q (F0 m 0 ls [])) : gMv l y w rm D Z kI av sz ws post wo := by
  refine Met.ofW (cc := cc) (maxL := maxL) (ret := none) hy hw ?_
  intro p e s m args below meth c s₁ B hml hv
  obtain ⟨rfl, hsz, hP, hK, hD0, hZ⟩ := hv
  subst hsz
  have hl := lv_entry av (n := maxL) hlen
  rw [lg_entry_eq]
  refine body p e s m below meth c (va_A ws s.heap.size) _ s.heap _ B.exec B.bytes hml (findClass_of_methodNamed B.named) (fun q h => atoms_spec (ws := w) B.pre q (by rw [hw]; exact List.mem_cons_of_mem _ h)) (fun q h => Or.inr h) hK hZ hP (hD0.self (sz := s.heap.size)) va_S.rf hl ?_
  intro u H locs ls pc hd hp hP hD hS
  exact W.vret B.exec B.bytes B.returns (fun t ht hW => ⟨⟨u, rfl, hp, by rw [ht]; exact hP, hD⟩, hS.F ht⟩) hS.2.2 hd
/-! pure rows -/
theorem g_in {k : Int32} {n : Nat} (h0 : ¬ k < 0) (h1 : ¬ nI n ≤ k) (hn : n < 2 ^ 31) : vp_in k n := by
  rw [vp_in_iff]
  rw [Int32.lt_iff_toInt_lt] at h0
  rw [Int32.le_iff_toInt_le, nI_toInt hn] at h1
  have : (0 : Int32).toInt = 0 := rfl
  omega
theorem g_lt {i b : Int32} (h : ¬ b ≤ i) : i.toInt < b.toInt := by
  rw [Int32.le_iff_toInt_le] at h
  omega
theorem g_bm {x : Int} (h1 : -2147483648 ≤ x) (h2 : x < 2147483648) : x.bmod (2 ^ 32) = x := Int.bmod_eq_of_le (by omega) (by omega)
theorem g_inc {i b : Int32} (h : ¬ b ≤ i) : (i + 1).toInt = i.toInt + 1 := by
  have h1 := g_lt h
  have h2 := b.toInt_lt
  have h3 := i.le_toInt
  rw [Int32.toInt_add]
  have : (1 : Int32).toInt = 1 := rfl
  rw [this]
  exact g_bm (by omega) (by omega)
theorem g_dec1 {i b : Int32} (h : ¬ b ≤ i) : (b.toInt - (i + 1).toInt).toNat < (b.toInt - i.toInt).toNat := by
  have h1 := g_lt h
  rw [g_inc h]
  omega
theorem g_nn {i b : Int32} (h : ¬ b ≤ i) (h0 : ¬ i < 0) : ¬ (i + 1) < 0 := by
  have h1 := g_inc h
  have h2 : (0 : Int32).toInt = 0 := rfl
  rw [Int32.lt_iff_toInt_lt] at h0 ⊢
  omega
theorem g_inc2 {i : Int32} (h : i.toInt + 2 < 2 ^ 31) : (i + 2).toInt = i.toInt + 2 := by
  have h3 := i.le_toInt
  rw [Int32.toInt_add]
  have : (2 : Int32).toInt = 2 := rfl
  rw [this]
  exact g_bm (by omega) (by omega)
theorem g_dec1d {i b : Int32} (h : ¬ i ≤ b) : ((i + (-1)).toInt - b.toInt).toNat < (i.toInt - b.toInt).toNat := by
  have h1 := g_lt h
  have h2 := i.toInt_lt
  have h3 := b.le_toInt
  have h4 : (i + (-1)).toInt = i.toInt - 1 := by
    rw [Int32.toInt_add]
    have : (-1 : Int32).toInt = -1 := rfl
    rw [this]
    exact g_bm (by omega) (by omega)
  rw [h4]
  omega
theorem g_dec2 {i b : Int32} (h : ¬ b ≤ i) (hb : ¬ 3000 < b.toInt) : (b.toInt - ((i + 1) + 1).toInt).toNat < (b.toInt - i.toInt).toNat := by
  have h1 := g_lt h
  have h3 := i.le_toInt
  have h4 := g_inc h
  have h5 : ((i + 1) + 1).toInt = i.toInt + 2 := by
    rw [Int32.toInt_add, h4]
    have : (1 : Int32).toInt = 1 := rfl
    rw [this, g_bm (by omega) (by omega)]
    omega
  rw [h5]
  omega
theorem g_decu {i b : Int32} (h : ¬ b ≤ (i + 1)) (hb : ¬ 3000 < b.toInt) : (b.toInt - ((i + 2) + 1).toInt).toNat < (b.toInt - (i + 1).toInt).toNat := by
  have h1 := g_lt h
  have h3 := (i + 1).le_toInt
  have h5 : ((i + 2) + 1) = (i + 1) + 2 := by
    rw [Int32.add_assoc, Int32.add_assoc, Int32.add_comm 2 1]
  rw [h5, g_inc2 (by omega)]
  omega
theorem g_end {k n : Int32} (h0 : ¬ k < 0) (h : ¬ n ≤ k) (hn : ¬ 20 < n) : vp_in (k / 4) 5 := by
  obtain ⟨j, hj, rfl⟩ := nI_of h0
  have h1 := g_lt h
  rw [nI_toInt hj] at h1
  rw [Int32.lt_iff_toInt_lt] at hn
  have : (20 : Int32).toInt = 20 := rfl
  have e : nI j / 4 = nI (j / 4) := pk_div (d := 4) hj (by decide) (by decide)
  rw [e]
  exact vp_in_nI (by omega) (by decide)
theorem g_lele {x b : Int32} {n : Int} (h : ¬ b ≤ x) (hb : ¬ n < b.toInt) : ¬ n < x.toInt := by
  have h1 := g_lt h
  omega
/-! the rows of numbers -/
def m_Row_size (l : List Int32) : Int32 := nI l.length
def m_Row_room (n : Nat) (l : List Int32) : Int32 := nI n - nI l.length
def m_Row_get (l : List Int32) (k : Int32) : Int32 := if k < 0 then -1 else if nI l.length ≤ k then -1 else l.getD k.toNatClampNeg 0
def m_Row_put (n : Nat) (l : List Int32) (o v : Int32) : List Int32 × Int32 := if l.length < n then (l ++ [v], o) else (l, 1)
def m_Row_empty : List Int32 × Int32 := ([], 0)
theorem g_szle {n : Nat} {f : Nat → Int32} {l : List Int32} (h : g_rw n f l) : ¬ 3000 < (m_Row_size l).toInt := by
  obtain ⟨h1, h2, -⟩ := h
  rw [m_Row_size, nI_toInt (by omega)]
  omega
theorem g_dec3 {n : Nat} {f : Nat → Int32} {l : List Int32} {i b : Int32} (hr : g_rw n f l) (hg : m_Row_get l i = 61) (h : ¬ b ≤ (i + 2)) : (b.toInt - ((i + 2) + 1).toInt).toNat < (b.toInt - i.toInt).toNat := by
  obtain ⟨h1, h2, -⟩ := hr
  rw [m_Row_get] at hg
  by_cases c1 : i < 0
  · rw [if_pos c1] at hg
    exact absurd hg (by decide)
  · rw [if_neg c1] at hg
    by_cases c2 : nI l.length ≤ i
    · rw [if_pos c2] at hg
      exact absurd hg (by decide)
    · have h3 := g_lt c2
      rw [nI_toInt (by omega)] at h3
      have h5 := g_inc h
      have h6 := g_inc2 (i := i) (by omega)
      have h7 := g_lt h
      rw [h5, h6]
      omega
/-! constructors -/
abbrev gMc {S : Type} (l : Launch) (y : MethodName) (w : List Cond) (rm : Room) (D : va_G) (Z : gZT) (kI : ClassId) (av : List Value) (sz : Nat) (ws : va_W) (wo : S → va_W) (mc ms : Nat) : Prop :=
  Met l y w rm (gP D Z kI av sz ws) (va_Qv (fun _ : S => True) (gB D (va_A ws sz) wo) (va_A ws sz)) mc ms (va_A ws sz)
theorem g_kIeq {D : va_G} {kI cA : ClassId} {s : State} (h : va_K D vwCl (gTys D kI ++ [(cA, .int)]) s) : cA = kI := by
  have h0 := (h.2 0 (kI, .int) rfl).2
  have h1 := (h.2 3 (cA, .int) rfl).2
  exact Option.some.inj (h1.symm.trans h0)
theorem g_kBeq {D : va_G} {kI cA : ClassId} {s : State} (h : va_K D vwCl (gTys D kI ++ [(cA, .byte)]) s) : cA = D.1 100 := by
  have h0 := (h.2 1 (D.1 100, .byte) rfl).2
  have h1 := (h.2 3 (cA, .byte) rfl).2
  exact Option.some.inj (h1.symm.trans h0)
theorem g_kLeq {D : va_G} {kI cA : ClassId} {s : State} (h : va_K D vwCl (gTys D kI ++ [(cA, .long)]) s) : cA = D.1 101 := by
  have h0 := (h.2 2 (D.1 101, .long) rfl).2
  have h1 := (h.2 3 (cA, .long) rfl).2
  exact Option.some.inj (h1.symm.trans h0)
theorem g_ofc {l : Launch} {y : MethodName} {w : List Cond} {rm : Room} {D : va_G} {Z : gZT} {kI : ClassId} {av : List Value} {sz : Nat} {ws : va_W} {S : Type} {wo : S → va_W} {mc ms : Nat} {cc : ByteArray} {maxL : Nat} (hy : plainName y.cls = true) (hw : w = Cond.code y cc maxL none :: gW) (hlen : (lg_sl av).length ≤ maxL)
    (body : ∀ (p : Program) (e : Env) (s : State) (m : MethodId) (below : List Frame) (meth : Method) (c : Code) (A : Nat → Prop) (Q : State → Prop) (H : Heap) (ls : Array Slot), p.tables.exec = Jvm.exec → c.code = cc → c.maxLocals = maxL → s.vm.findClass y.cls = some m.cls → meth.name = y.name → (∀ q ∈ gW, q.before av.toArray s = true) → (∀ q, s.heap.size ≤ q → A q) → va_K D vwCl (gTys D kI) s → gZ Z A s s.heap → va_P D vwCl ws H → va_D A ws → va_S A s.heap H [] → lv_has ls maxL (lv_args 0 av) →
      (∀ (u : S) (H : Heap) (locs : List Loc) (ls : Array Slot) (pc cells slots : Nat), cells ≤ mc → slots ≤ ms → decode cc pc = .ok (.return_, 1) → va_P D vwCl (wo u) H → va_D A (wo u) → va_S A s.heap H locs → W p l e rm s m av.toArray below meth c H locs cells slots Q (F0 m pc ls [])) →
      W p l e rm s m av.toArray below meth c H [] 0 0 Q (F0 m 0 ls [])) : gMc l y w rm D Z kI av sz ws wo mc ms := by
  refine Met.ofW (cc := cc) (maxL := maxL) (ret := none) hy hw ?_
  intro p e s m args below meth c s₁ B hml hv
  obtain ⟨rfl, hsz, hP, hK, hD0, hZ⟩ := hv
  subst hsz
  have hl := lv_entry av (n := maxL) hlen
  rw [lg_entry_eq]
  refine body p e s m below meth c (va_A ws s.heap.size) _ s.heap _ B.exec B.bytes hml (findClass_of_methodNamed B.named) (name_of_methodNamed B.named B.method).1 (fun q h => atoms_spec (ws := w) B.pre q (by rw [hw]; exact List.mem_cons_of_mem _ h)) (fun q h => Or.inr h) hK hZ hP (hD0.self (sz := s.heap.size)) va_S.rf hl ?_
  intro u H locs ls pc cells slots hc hs hd hP hD hS
  refine W.widen hc hs ?_
  exact W.vret B.exec B.bytes B.returns (fun t ht hW => ⟨⟨u, rfl, trivial, by rw [ht]; exact hP, hD⟩, hS.F ht⟩) hS.2.2 hd

theorem g_rw_n {n : Nat} {f : Nat → Int32} {l : List Int32} (h : g_rw n f l) : n < 2 ^ 31 := Nat.lt_of_le_of_lt h.2.1 (by decide)
theorem g_rw_l {n : Nat} {f : Nat → Int32} {l : List Int32} (h : g_rw n f l) : l.length < 2 ^ 31 := Nat.lt_of_le_of_lt h.1 (g_rw_n h)
theorem g_len_nn {n : Nat} {f : Nat → Int32} {l : List Int32} (h : g_rw n f l) : ¬ nI l.length < 0 := nI_pos (g_rw_l h)
theorem g_get_neg {l : List Int32} {k : Int32} (h : k < 0) : m_Row_get l k = -1 := by rw [m_Row_get, if_pos h]
theorem g_get_big {l : List Int32} {k : Int32} (h : nI l.length ≤ k) : m_Row_get l k = -1 := by
  rw [m_Row_get, if_pos h, ite_self]
theorem g_get_no {n : Nat} {f : Nat → Int32} {l : List Int32} {k : Int32} (hr : g_rw n f l) (h1 : ¬ nI l.length ≤ k) (h2 : nI n ≤ k) : m_Row_get l k = -1 := by
  have a := g_lt h1
  rw [nI_toInt (g_rw_l hr)] at a
  rw [Int32.le_iff_toInt_le, nI_toInt (g_rw_n hr)] at h2
  have := hr.1
  omega
theorem g_get_in {n : Nat} {f : Nat → Int32} {l : List Int32} {k : Int32} (hr : g_rw n f l) (h0 : ¬ k < 0) (h1 : ¬ nI l.length ≤ k) : m_Row_get l k = f k.toNatClampNeg := by
  obtain ⟨j, hj, rfl⟩ := nI_of h0
  have a := g_lt h1
  rw [nI_toInt (g_rw_l hr), nI_toInt hj] at a
  rw [m_Row_get, if_neg h0, if_neg h1, nI_clamp hj]
  exact (hr.2.2 j (by omega)).symm
theorem g_put_full {n : Nat} {f : Nat → Int32} {l : List Int32} {o v : Int32} (h : nI n ≤ nI l.length) (hr : g_rw n f l) : m_Row_put n l o v = (l, 1) := by
  have := (nI_leI (g_rw_n hr) (g_rw_l hr)).mp h
  rw [m_Row_put, if_neg (by omega)]
theorem g_put_lt {n : Nat} {f : Nat → Int32} {l : List Int32} (h : ¬ nI n ≤ nI l.length) (hr : g_rw n f l) : l.length < n := by
  rcases Nat.lt_or_ge l.length n with q | q
  · exact q
  · exact absurd ((nI_leI (g_rw_n hr) (g_rw_l hr)).mpr q) h
theorem g_put_in {n : Nat} {f : Nat → Int32} {l : List Int32} {o v : Int32} (h : ¬ nI n ≤ nI l.length) (hr : g_rw n f l) : m_Row_put n l o v = (l ++ [v], o) := by
  rw [m_Row_put, if_pos (g_put_lt h hr)]
theorem g_put_ix {n : Nat} {f : Nat → Int32} {l : List Int32} (h : ¬ nI n ≤ nI l.length) (hr : g_rw n f l) : vp_in (nI l.length) n := vp_in_nI (g_put_lt h hr) (g_rw_n hr)
theorem g_put_len {l : List Int32} {v : Int32} : nI l.length + 1 = nI (l ++ [v]).length := by
  rw [List.length_append]
  exact nI_1 l.length
theorem g_put_rw {n : Nat} {f : Nat → Int32} {l : List Int32} {v : Int32} (h : ¬ nI n ≤ nI l.length) (hr : g_rw n f l) : g_rw n (upd f (nI l.length).toNatClampNeg v) (l ++ [v]) := by
  have a := g_put_lt h hr
  rw [nI_clamp (g_rw_l hr)]
  refine ⟨by rw [List.length_append]; exact a, hr.2.1, fun i hi => ?_⟩
  rw [List.length_append] at hi
  have hi : i < l.length + 1 := hi
  by_cases q : i = l.length
  · subst q
    rw [pk_us]
    simp
  · rw [pk_un q, hr.2.2 i (by omega)]
    rw [List.getD_eq_getElem?_getD, List.getD_eq_getElem?_getD, List.getElem?_append_left (by omega)]

theorem g_ltI {x y : Int32} (h : ¬ y ≤ x) : x < y := by
  rw [Int32.lt_iff_toInt_lt]
  exact g_lt h
theorem g_and15 (x : Int32) : (¬ (x &&& 15) < 0) ∧ ¬ nI 16 ≤ (x &&& 15) := by
  obtain ⟨j, hj, e⟩ := pk_andE x (m := 15) 4 (by decide)
  rw [e]
  exact ⟨nI_pos (by omega), nI_ge (by omega) (by decide)⟩

/-! a method that answers a text constant, by its place -/
abbrev gMr (l : Launch) (y : MethodName) (w : List Cond) (rm : Room) (D : va_G) (Z : gZT) (kI : ClassId) (av : List Value) (sz : Nat) (ws : va_W) (post : Nat → Prop) (wo : va_W) : Prop :=
  Met l y w rm (gP D Z kI av sz ws) (va_Qr post (fun (r : Nat) (a : Nat) (t : State) => a = Z.1 r ∧ va_P D vwCl wo t.heap ∧ va_D (va_A ws sz) wo) (va_A ws sz)) 0 0 (va_A ws sz)
theorem g_ofr {l : Launch} {y : MethodName} {w : List Cond} {rm : Room} {D : va_G} {Z : gZT} {kI : ClassId} {av : List Value} {sz : Nat} {ws : va_W} {post : Nat → Prop} {wo : va_W} {cc : ByteArray} {maxL : Nat} (hy : plainName y.cls = true) (hw : w = Cond.code y cc maxL (some (.object "java/lang/String")) :: gW) (hlen : (lg_sl av).length ≤ maxL)
    (body : ∀ (p : Program) (e : Env) (s : State) (m : MethodId) (below : List Frame) (meth : Method) (c : Code) (A : Nat → Prop) (Q : State → Prop) (H : Heap) (ls : Array Slot), p.tables.exec = Jvm.exec → c.code = cc → c.maxLocals = maxL → s.vm.findClass y.cls = some m.cls → (∀ q ∈ gW, q.before av.toArray s = true) → (∀ q, s.heap.size ≤ q → A q) → va_K D vwCl (gTys D kI) s → gZ Z A s s.heap → va_P D vwCl ws H → va_D A ws → va_S A s.heap H [] → lv_has ls maxL (lv_args 0 av) →
      (∀ (r : Nat) (H : Heap) (locs : List Loc) (ls : Array Slot) (pc : Nat), decode cc pc = .ok (.areturn, 1) → post r → va_P D vwCl wo H → va_D A wo → va_S A s.heap H locs → W p l e rm s m av.toArray below meth c H locs 0 0 Q (F0 m pc ls [.ref (Z.1 r)])) →
      W p l e rm s m av.toArray below meth c H [] 0 0 Q (F0 m 0 ls [])) : gMr l y w rm D Z kI av sz ws post wo := by
  refine Met.ofW (cc := cc) (maxL := maxL) (ret := some (.object "java/lang/String")) hy hw ?_
  intro p e s m args below meth c s₁ B hml hv
  obtain ⟨rfl, hsz, hP, hK, hD0, hZ⟩ := hv
  subst hsz
  have hl := lv_entry av (n := maxL) hlen
  rw [lg_entry_eq]
  refine body p e s m below meth c (va_A ws s.heap.size) _ s.heap _ B.exec B.bytes hml (findClass_of_methodNamed B.named) (fun q h => atoms_spec (ws := w) B.pre q (by rw [hw]; exact List.mem_cons_of_mem _ h)) (fun q h => Or.inr h) hK hZ hP (hD0.self (sz := s.heap.size)) va_S.rf hl ?_
  intro r H locs ls pc hd hp hP hD hS
  exact W.aret B.exec B.bytes B.returns (Or.inl ⟨_, rfl⟩) (Or.inr ⟨_, rfl⟩) (fun t ht hW => ⟨⟨r, Z.1 r, rfl, hp, rfl, by rw [ht]; exact hP, hD⟩, hS.F ht⟩) hS.2.2 hd
section GCallR
variable {p : Program} {l : Launch} {e : Env} {R : Room} {s : State} {m : MethodId} {args : Array Value} {below : List Frame} {meth : Method} {c : Code} {H : Heap} {locs : List Loc} {cells slots : Nat} {Q : State → Prop} {cc : ByteArray} {pc : Nat} {ls : Array Slot} {D : va_G} {Z : gZT} {kI : ClassId} {A : Nat → Prop}
variable {y : MethodName} {wy : List Cond} {rm : Room} {bytes : ByteArray} {maxL nL n index : Nat} {ret : Option FieldType} {Ts : List Cond} {own C : String} {b : Nat} {As rest st0 : List Value} {ws wc wr : va_W}
theorem g_Sr {post : Nat → Prop} {wo : va_W} (F : CallFix p m c cc nL s args Ts own) (hM : gMr l y wy rm D Z kI As H.size wc post wo) (cw : CallB R s args own index y bytes maxL ret wy rm 0 0 n ∧ (Cond.static y).before args s = true) (hK : va_K D vwCl (gTys D kI) s) (hZ : gZ Z A s s.heap) (hP : va_P D vwCl ws H) (hD : va_D A ws) (hS : va_S A s.heap H locs) (hA : ∀ q, s.heap.size ≤ q → A q) (isC isR : List Nat)
    (hC : isC.map (fun i => ws[i]?) = wc.map some) (hR : isR.map (fun i => ws[i]?) = wr.map some) (hnC : va_nd isC = true) (hn : va_nd isR = true) (hdis : ∀ i ∈ isR, i ∉ isC) (hln : As.length = n) (hsize : ls.size = nL) (hst : st0 = As.reverse ++ rest) (hW : (rest.map fun v => v.category).sum ≤ 8) (hdg : decode cc pc = .ok (.invokestatic index, 3)) (hf : cells ≤ R.cells ∧ slots ≤ R.slots)
    (kk : ∀ (r : Nat) (H1 : Heap) (locs1 : List Loc), post r → va_P D vwCl (wr ++ wo) H1 → va_D A (wr ++ wo) → va_S A s.heap H1 locs1 → W p l e R s m args below meth c H1 locs1 cells slots Q (F0 m (pc + 3) ls (.ref (Z.1 r) :: rest))) : W p l e R s m args below meth c H locs cells slots Q (F0 m pc ls st0) := by
  have hF := va_free (wc := wc) hD hS hA isC hC
  refine va_callr (va_runS (g := F0 m pc ls st0) F hM cw ⟨gP_blind, g_pre hK hZ hP hD hS hA isC hC hnC⟩ rfl hln hsize hst (lv_room hW) hdg hf) hS (fun q _ h => hF q h) hF (fun r a t H1 locs1 ht hvm hw hB hz1 hk1 hS1 => ?_)
  obtain ⟨rfl, hP1, hD1⟩ := hB
  rw [ht] at hP1
  obtain ⟨hP2, hD2⟩ := va_join hP hD isC isR hC hR hn hdis hk1 hF hP1 hD1
  exact kk r H1 locs1 hw hP2 hD2 hS1
theorem g_Ic {S : Type} {wo : S → va_W} {mc ms : Nat} (F : CallFix p m c cc nL s args Ts own) (hM : gMc l y wy rm D Z kI (.ref b :: As) H.size wc wo mc ms) (cw : CallB R s args own index y bytes maxL none wy rm mc ms n ∧ y.name = "<init>" ∧ (Cond.instanceMethod y).before args s = true) (hK : va_K D vwCl (gTys D kI) s) (hZ : gZ Z A s s.heap) (hP : va_P D vwCl ws H) (hD : va_D A ws) (hS : va_S A s.heap H locs) (hA : ∀ q, s.heap.size ≤ q → A q) (isC isR : List Nat)
    (hC : isC.map (fun i => ws[i]?) = wc.map some) (hR : isR.map (fun i => ws[i]?) = wr.map some) (hnC : va_nd isC = true) (hn : va_nd isR = true) (hdis : ∀ i ∈ isR, i ∉ isC) (hln : As.length = n) (hsize : ls.size = nL) (hst : st0 = As.reverse ++ .ref b :: rest) (hW : (rest.map fun v => v.category).sum ≤ 8) (hdg : decode cc pc = .ok (.invokespecial index, 3)) (hf : cells + mc ≤ R.cells ∧ slots + ms ≤ R.slots)
    (kk : ∀ (u : S) (H1 : Heap) (locs1 : List Loc), va_P D vwCl (wr ++ wo u) H1 → va_D A (wr ++ wo u) → va_S A s.heap H1 locs1 → W p l e R s m args below meth c H1 locs1 (cells + mc) (slots + ms) Q (F0 m (pc + 3) ls rest)) : W p l e R s m args below meth c H locs cells slots Q (F0 m pc ls st0) := by
  have hF := va_free (wc := wc) hD hS hA isC hC
  refine va_callv (va_runI (g := F0 m pc ls st0) F hM cw ⟨gP_blind, g_pre hK hZ hP hD hS hA isC hC hnC⟩ rfl hln hsize hst (lv_room hW) hdg hf) hS (fun q _ h => hF q h) hF (fun u t H1 locs1 ht hvm hw hB hz1 hk1 hS1 => ?_)
  obtain ⟨hP1, hD1⟩ := hB
  rw [ht] at hP1
  obtain ⟨hP2, hD2⟩ := va_join hP hD isC isR hC hR hn hdis hk1 hF hP1 hD1
  exact kk u H1 locs1 hP2 hD2 hS1
theorem g_INc {S : Type} {wo : S → va_W} {mc ms : Nat} (F : CallFix p m c cc nL s args Ts own) (hM : gMc l y wy rm D Z kI (.ref b :: As) H.size wc wo mc ms) (cw : va_CN R s args own index y "MailCharacters" bytes maxL none wy rm mc ms n ∧ y.name = "<init>" ∧ (Cond.instanceMethod y).before args s = true) (hK : va_K D vwCl (gTys D kI) s) (hZ : gZ Z A s s.heap) (hP : va_P D vwCl ws H) (hD : va_D A ws) (hS : va_S A s.heap H locs) (hA : ∀ q, s.heap.size ≤ q → A q) (isC isR : List Nat)
    (hC : isC.map (fun i => ws[i]?) = wc.map some) (hR : isR.map (fun i => ws[i]?) = wr.map some) (hnC : va_nd isC = true) (hn : va_nd isR = true) (hdis : ∀ i ∈ isR, i ∉ isC) (hln : As.length = n) (hsize : ls.size = nL) (hst : st0 = As.reverse ++ .ref b :: rest) (hW : (rest.map fun v => v.category).sum ≤ 8) (hdg : decode cc pc = .ok (.invokespecial index, 3)) (hf : cells + mc ≤ R.cells ∧ slots + ms ≤ R.slots)
    (kk : ∀ (u : S) (H1 : Heap) (locs1 : List Loc), va_P D vwCl (wr ++ wo u) H1 → va_D A (wr ++ wo u) → va_S A s.heap H1 locs1 → W p l e R s m args below meth c H1 locs1 (cells + mc) (slots + ms) Q (F0 m (pc + 3) ls rest)) : W p l e R s m args below meth c H locs cells slots Q (F0 m pc ls st0) := by
  have hF := va_free (wc := wc) hD hS hA isC hC
  refine va_callv (va_runIN (g := F0 m pc ls st0) F hM cw ⟨gP_blind, g_pre hK hZ hP hD hS hA isC hC hnC⟩ rfl hln hsize hst (lv_room hW) hdg hf) hS (fun q _ h => hF q h) hF (fun u t H1 locs1 ht hvm hw hB hz1 hk1 hS1 => ?_)
  obtain ⟨hP1, hD1⟩ := hB
  rw [ht] at hP1
  obtain ⟨hP2, hD2⟩ := va_join hP hD isC isR hC hR hn hdis hk1 hF hP1 hD1
  exact kk u H1 locs1 hP2 hD2 hS1
end GCallR

theorem g_new0 (cA : ClassId) (N : Nat) : vp_cell cA (N, .inl (fun _ => 0)) = arrV cA N (fun _ => defaultValue .int) := rfl

