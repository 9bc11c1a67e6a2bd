/-! contracts of methods that answer an int or throw: k = 0: answered; 1: IllegalArgumentException; else IllegalStateException -/
def gE (k : Int32) : String := if k = 1 then "java/lang/IllegalArgumentException" else "java/lang/IllegalStateException"
theorem gE1 : gE 1 = "java/lang/IllegalArgumentException" := by decide +kernel
theorem gE2 : gE 2 = "java/lang/IllegalStateException" := by decide +kernel
def gQt {S : Type} (D : va_G) (A : Nat → Prop) (wo : S → va_W) (post : Int32 → Int32 → S → Prop) (mc ms : Nat) : Array Value → State → Outcome → State → Prop := fun _ st oc t =>
  ∃ (k r : Int32) (u : S) (L : List Loc), post k r u ∧ va_P D vwCl (wo u) t.heap ∧ va_D A (wo u) ∧ va_F A st t ∧ st.WarmedH t.vm ∧ st.sameButNew ({ t with vm := st.vm } : State) L mc ms ∧ (∀ q ∈ L, A q.base) ∧
    ((k = 0 ∧ oc = .returned (some (.int r))) ∨ (¬ k = 0 ∧ ∃ (x : Nat) (ce : Cell), oc = .threw x ∧ t.heap[x]? = some ce ∧ ce.vm = .none ∧ st.vm.findClass (gE k) = some ce.cls))
abbrev gMt {S : Type} (l : Launch) (y : MethodName) (w : List Cond) (rm : Room) (D : va_G) (Z : gZT) (kI : ClassId) (av : List Value) (sz : Nat) (ws : va_W) (post : Int32 → Int32 → S → Prop) (wo : S → va_W) (mc ms : Nat) : Prop :=
  MetFree l y (headSpec w rm) (gP D Z kI av sz ws) (fun _ _ _ _ _ => True) (gQt D (va_A ws sz) wo post mc ms)
theorem g_oft {l : Launch} {y : MethodName} {w : List Cond} {rm : Room} {D : va_G} {Z : gZT} {kI : ClassId} {av : List Value} {sz : Nat} {ws : va_W} {S : Type} {post : Int32 → Int32 → S → Prop} {wo : S → va_W} {mc ms : Nat} {cc : ByteArray} {maxL : Nat} (hnt : ∀ e, l.admits e → e.platform.stackTraces = false) (hy : plainName y.cls = true) (hw : w = Cond.code y cc maxL (some .int) :: gW) (hlen : (lg_sl av).length ≤ maxL)
    (body : ∀ (p : Program) (e : Env) (s : State) (m : MethodId) (below : List Frame) (meth : Method) (c : Code) (A : Nat → Prop) (Q : State → Prop) (H : Heap) (ls : Array Slot), p.tables.exec = Jvm.exec → c.code = cc → c.maxLocals = maxL → s.vm.findClass y.cls = some m.cls → (∀ q ∈ gW, q.before av.toArray s = true) → (∀ q, s.heap.size ≤ q → A q) → va_K D vwCl (gTys D kI) s → gZ Z A s s.heap → va_P D vwCl ws H → va_D A ws → va_S A s.heap H [] → lv_has ls maxL (lv_args 0 av) → e.platform.stackTraces = false → c.exceptionTable.isEmpty = true → meth.locks = false →
      (∀ (r : Int32) (u : S) (H : Heap) (locs : List Loc) (ls : Array Slot) (pc : Nat), decode cc pc = .ok (.ireturn, 1) → post 0 r u → va_P D vwCl (wo u) H → va_D A (wo u) → va_S A s.heap H locs → W p l e rm s m av.toArray below meth c H locs 0 0 Q (F0 m pc ls [.int r])) →
      (∀ (k : Int32) (u : S) (H : Heap) (locs : List Loc) (U : State) (ce : Cell), ¬ k = 0 → 1 ≤ mc → 6 ≤ ms → post k 0 u → va_P D vwCl (wo u) H → va_D A (wo u) → va_S A s.heap H locs → (∀ q, q < H.size → U.heap[q]? = H[q]?) → U.heap[H.size]? = some ce → ce.vm = .none → s.vm.findClass (gE k) = some ce.cls → s.WarmedH U.vm → s.sameButNew ({ U with vm := s.vm } : State) locs (0 + 1) (0 + 6) → U.status = .running → Ended U below (.threw H.size) → Q U) →
      W p l e rm s m av.toArray below meth c H [] 0 0 Q (F0 m 0 ls [])) : gMt l y w rm D Z kI av sz ws post wo mc ms := by
  refine MetFree.of_bodyS (code := cc) (maxLocals := maxL) (ret := some .int) hy ?_ ?_
  · intro args s m h hn
    obtain ⟨meth, c, h1, h2, h3, h4, h5, h6, -, -⟩ := Cond.code_spec hn (atoms_spec (ws := w) h _ (by rw [hw]; exact List.mem_cons_self))
    exact ⟨meth, c, h1, h2, h3, h4, h5, h6⟩
  · intro p e s m args below meth c s₁ B hml hv _
    obtain ⟨rfl, hsz, hP, hK, hD0, hZ⟩ := hv
    subst hsz
    have hh0 : s₁.heap = s.heap := by rw [B.state]; rfl
    have hl := lv_entry av (n := maxL) hlen
    have X := Stand.of_body B
    have hcw := atoms_spec (ws := w) B.pre _ (by rw [hw]; exact List.mem_cons_self)
    have K : W p l e rm s m av.toArray below meth c s.heap [] 0 0 (fun t => ∃ o, t.status = .running ∧ Ended t below o ∧ gQt D (va_A ws s.heap.size) wo post mc ms av.toArray s o t) (entryFrame m av.toArray maxL) := by
      rw [lg_entry_eq]
      refine body p e s m below meth c (va_A ws s.heap.size) _ s.heap _ B.exec B.bytes hml (findClass_of_methodNamed B.named) (fun q h => atoms_spec (ws := w) B.pre q (by rw [hw]; exact List.mem_cons_of_mem _ h)) (fun q h => Or.inr h) hK hZ hP (hD0.self (sz := s.heap.size)) va_S.rf hl (hnt e X.admits) (B.noHandlers hcw) B.notSynchronized ?_ ?_
      · intro r u H locs ls pc hd hp hP hD hS
        refine g_Wmono (W.iret (free := va_A ws s.heap.size) (Qc := fun _ st oc t => ∃ (r : Int32) (u : S), oc = .returned (some (.int r)) ∧ post 0 r u ∧ va_P D vwCl (wo u) t.heap ∧ va_D (va_A ws s.heap.size) (wo u) ∧ va_F (va_A ws s.heap.size) st t) B.exec B.bytes B.returns (fun t ht hW => ⟨r, u, rfl, hp, by rw [ht]; exact hP, hD, hS.F ht⟩) hS.2.2 hd) ?_
        intro t ht
        obtain ⟨o, h1, h2, ⟨r, u, rfl, h3, h4, h5, h6⟩, L, ⟨-, h7, h8⟩, h9⟩ := ht
        exact ⟨_, h1, h2, 0, r, u, L, h3, h4, h5, h6, h7, h8.mono (Nat.zero_le _) (Nat.zero_le _), h9, Or.inl ⟨rfl, rfl⟩⟩
      · intro k u H locs U ce hk0 hmc hms hp hP hD hS hU hce hcv hcl hW hsm hrun hend
        refine ⟨_, hrun, hend, k, 0, u, locs, hp, ?_, hD, ?_, hW, hsm.mono (by omega) (by omega), hS.2.2, Or.inr ⟨hk0, H.size, ce, rfl, hce, hcv, hcl⟩⟩
        · exact hP.kept (fun j q hj => hU q.1 (va_at.lt (hP j q hj)))
        · refine ⟨?_, fun q h1 h2 => ?_⟩
          · have := hsm.2.1
            exact this
          · rw [hU q (Nat.lt_of_lt_of_le h1 hS.1)]
            exact hS.2.1 q h1 h2
    obtain ⟨t, a1, o, b1, b2, b3⟩ := K s₁ hh0 X
    exact ⟨t, o, a1, b1, b2, b3⟩

