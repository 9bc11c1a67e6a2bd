theorem k_90 : Cond.classLink "MailCharactersLaw" 8 "MailCharacters" ∈ gW := gW_at 90 (by decide +kernel) (by decide +kernel)
theorem k_92 : Cond.methodLink "MailCharactersLaw" 26 ⟨"MailCharacters", "<init>", "()V"⟩ ∈ gW := gW_at 92 (by decide +kernel) (by decide +kernel)
theorem k_834 : Cond.classLink "MailCharactersLaw" 27 "MailCharactersModel" ∈ gW := gW_at 834 (by decide +kernel) (by decide +kernel)
theorem k_836 : Cond.methodLink "MailCharactersLaw" 29 ⟨"MailCharactersModel", "<init>", "()V"⟩ ∈ gW := gW_at 836 (by decide +kernel) (by decide +kernel)
/-! THE CLAIM OUT OF ONE WALK OF THE LAW'S BODY. Your part is whole_start (and what it stands on); all else here is the same for every law, but numbers. -/
def R_law : String := "MailCharactersLaw"
def lw_P (b : Addr) (xs : List Int32) (args : Array Value) (s : State) : Prop := args = #[.ref b] ∧ s.IntsAt b xs ∧ xs.length ≤ 6 ∧ (Jvm.Cond.and given_1 narrow_1).before args s = true
def lw_Q (_ : Array Value) (s : State) (o : Outcome) (t : State) : Prop := o = .returned (some (.int 1)) ∧ Framed s o t [] 600002 7302232
def lw_Z (below : List Frame) (a : Array Value) (s : State) : State → Prop := fun t => ∃ o, t.status = .running ∧ Ended t below o ∧ lw_Q a s o t
/-- the law's own end, with 1 on the stack, nothing written that was there before, its room as the claim has it -/
theorem lw_ret {p : Program} {l : Launch} {e : Env} {s : State} {m : MethodId} {below : List Frame} {meth : Method} {c : Code} {b : Nat} (hx : p.tables.exec = Jvm.exec) (hb : c.code = code) (hr : meth.sig.returnType = ret) (hlocks : meth.locks = false) {pc : Nat} {H : Heap} {ls : Array Slot} (hdg : decode code pc = .ok (.ireturn, 1)) : W p l e room_1 s m #[Value.ref b] below meth c H [] 600002 7302232 (lw_Z below #[Value.ref b] s) (F0 m pc ls [.int 1]) := by
  intro T hT X
  obtain ⟨fs, hret, hrun, hended, hW, hframe⟩ := X.leave (v := some (.int 1)) (hlocks := hlocks) (fun h => by rw [hr] at h; cases h)
  have hmeth' : T.vm.method? m = some meth := X.method'
  refine ⟨T.setFrames fs, ?_, .returned (some (.int 1)), hrun, hended, rfl, ⟨_, rfl⟩, hW, hframe⟩
  jvm_step X.here [X.here.top, hx, hb, hdg, hmeth', hr, ret, narrow_b1]
  (try refine ⟨rfl, ?_⟩); (try refine ⟨rfl, ?_⟩)
  first | (intro acts; rw [hret _ acts rfl rfl rfl]) | rw [hret _ _ rfl rfl rfl]
  exact Steps.refl _
/-- what holds at the law's entry: the machine, the code, the tables' words (any of lw_tbl by 'hts w (by decide +kernel)'), the script of L ints xs at the cell b, what the Statement gives of the start (any of its parts by flat_of_before) -/
def lw_At (p : Program) (s : State) (m : MethodId) (meth : Method) (c : Code) (b L : Nat) (xs : Nat → Int32) : Prop :=
  p.tables.exec = Jvm.exec ∧ c.code = code ∧ meth.sig.returnType = ret ∧ c.maxLocals = 7 ∧ s.vm.findClass R_law = some m.cls ∧ (∀ w ∈ lw_tbl, w.before #[Value.ref b] s = true) ∧ va_X b L xs s s.heap ∧ b < s.heap.size ∧ meth.locks = false ∧ (Jvm.Cond.and given_1 narrow_1).before #[Value.ref b] s = true
theorem s_L6 {L : Nat} (hL : L ≤ 6) (h : ¬ (Int32.ofNat L - 6) < 0) : L = 6 := by
  rcases (show L = 0 ∨ L = 1 ∨ L = 2 ∨ L = 3 ∨ L = 4 ∨ L = 5 ∨ L = 6 by omega) with rfl | rfl | rfl | rfl | rfl | rfl | rfl
  · exact absurd (by decide) h
  · exact absurd (by decide) h
  · exact absurd (by decide) h
  · exact absurd (by decide) h
  · exact absurd (by decide) h
  · exact absurd (by decide) h
  · rfl
set_option maxHeartbeats 4000000 in
set_option maxRecDepth 100000 in
theorem whole_start {p : Program} {e : Env} {s : State} {m : MethodId} {below : List Frame} {meth : Method} {c : Code} (l : Launch) (hnt : ∀ e, l.admits e → e.platform.stackTraces = false) {b L : Nat} {xs : Nat → Int32} (hL : L ≤ 6) (C0 : lw_At p s m meth c b L xs) : W p l e room_1 s m #[Value.ref b] below meth c s.heap [] 0 0 (lw_Z below #[Value.ref b] s) (entryFrame m ([Value.ref b] : List Value).toArray 7) := by
  obtain ⟨hx, hb, hr, hml, hown, htl, hX, hbl, hlocks, hgv⟩ := id C0
  have hown : s.vm.findClass "MailCharactersLaw" = some m.cls := hown
  obtain ⟨A, hAe⟩ : ∃ A : Nat → Prop, A = fun q => s.heap.size ≤ q := ⟨_, rfl⟩
  have hA : ∀ q : Nat, s.heap.size ≤ q → A q := fun q h => by rw [hAe]; exact h
  have hA2 : ∀ q : Nat, A q → s.heap.size ≤ q := fun q h => by rw [hAe] at h; exact h
  have hbA : ¬ A b := fun h => Nat.not_le.mpr hbl (hA2 b h)
  have hts : ∀ w ∈ gW, w.before #[Value.ref b] s = true := fun w h => htl w (List.mem_filter.mp h).1
  obtain ⟨D, kI, hK⟩ := s_K hts
  obtain ⟨Z, hZ⟩ := s_Z (A := A) htl hgv (fun a h hh => Nat.not_le.mpr h (hA2 a hh))
  have hS : va_S A s.heap s.heap [] := va_S.rf
  have hP : va_P D vwCl [] s.heap := fun k q h => by simp at h
  have hD : va_D A [] := ⟨fun i j p q h => by simp at h, fun k q h => by simp at h⟩
  have done : ∀ (H : Heap) (locs : List Loc) (ls : Array Slot) (k n : Nat), k ≤ 600002 → n ≤ 7302232 → va_S A s.heap H locs → W p l e room_1 s m #[Value.ref b] below meth c H locs k n (lw_Z below #[Value.ref b] s) (F0 m 527 ls []) := by
    intro H locs ls k n hk hn hS
    refine lv_iconst (v := 1) hx hb d_law_527 (by decide) ?_
    refine va_forget (fun q hq => hA2 _ (hS.2.2 q hq)) ?_
    refine W.widen hk hn ?_
    exact lw_ret hx hb hr hlocks d_law_528
  have hl := lv_entry ([.ref b]) (n := 7) (Nat.le_of_ble_eq_true rfl)
  rw [lg_entry_eq]
  generalize (lg_sl ([.ref b]) ++ List.replicate (7 - (lg_sl ([.ref b])).length) Slot.unset).toArray = ls at hl ⊢
  have hl : lv_has ls 7 [(0, .ref b)] := hl
  refine va_new (ci := 8) (fs := [.null, .null, .null, .null, .null, .null, .null, .null, .null]) (C := "MailCharacters") (T := F_MC) (N := 9) hx hb hts i_MC t_MC t_MC_ok hown (hts _ k_90) (hts _ k_91) (hts _ k_67) hK hP hD hS hA rfl (fun j hj => match j, hj with | 0, _ => rfl | 1, _ => rfl | 2, _ => rfl | 3, _ => rfl | 4, _ => rfl | 5, _ => rfl | 6, _ => rfl | 7, _ => rfl | 8, _ => rfl | k + 9, h => absurd h (by omega)) (by decide +kernel) (by decide +kernel) d_law_0 (fun x0 H hP hD hS => ?_)
  have hP : va_P D vwCl [(x0, .inr (8, [.null, .null, .null, .null, .null, .null, .null, .null, .null]))] H := hP
  have hD : va_D A [(x0, .inr (8, [.null, .null, .null, .null, .null, .null, .null, .null, .null]))] := hD
  refine lv_dup hx hb d_law_3 rfl ?_
  refine g_Ic (As := []) (rest := [.ref x0]) (wr := []) ⟨hx, hb, hml, hown, hts⟩ (c_MC_init l D Z kI x0 H.size) (cw_MC_init hts k_92 ⟨Nat.le_of_ble_eq_true rfl, Nat.le_of_ble_eq_true rfl⟩) hK hZ hP hD hS hA [0] [] rfl rfl (by decide) (by decide) (by decide) rfl hl.1 rfl (Nat.le_of_ble_eq_true rfl) d_law_4 ⟨by decide +kernel, by decide +kernel⟩ (fun u4 H locs hP hD hS => ?_)
  obtain ⟨x1, x2, x3, x4, x5, x6, x7, x8, x9, x10, x11, x12, x13, x14, x15, x16, x17⟩ := u4
  have hP : va_P D vwCl [(x0, .inr (8, [.ref x1, .ref x2, .ref x4, .ref x7, .ref x9, .ref x11, .ref x13, .ref x14, .ref x16])), (x1, .inl (kI, 5, .inl (fun _ => 0))), (x2, .inr (4, [.ref x3, .int (nI ([] : List Int32).length), .int 0])), (x3, .inl (kI, 3000, .inl (fun _ => 0))), (x4, .inr (5, [.ref x5, .ref x6])), (x5, .inr (0, [.int 0, .int 0])), (x6, .inr (2, [.int 0, .int 0, .int 0, .int 0])), (x7, .inr (1, [.ref x8, .int 0])), (x8, .inr (0, [.int 0, .int 0])), (x9, .inr (3, [.ref x10, .int 0])), (x10, .inr (0, [.int 0, .int 0])), (x11, .inr (7, [.ref x12])), (x12, .inr (0, [.int 0, .int 0])), (x13, .inr (6, [.int 0, .int 0, .int 0, .int 0, .int 0])), (x14, .inr (4, [.ref x15, .int (nI ([] : List Int32).length), .int 0])), (x15, .inl (kI, 1500, .inl (fun _ => 0))), (x16, .inr (4, [.ref x17, .int (nI ([] : List Int32).length), .int 0])), (x17, .inl (kI, 1500, .inl (fun _ => 0)))] H := hP
  have hD : va_D A [(x0, .inr (8, [.ref x1, .ref x2, .ref x4, .ref x7, .ref x9, .ref x11, .ref x13, .ref x14, .ref x16])), (x1, .inl (kI, 5, .inl (fun _ => 0))), (x2, .inr (4, [.ref x3, .int (nI ([] : List Int32).length), .int 0])), (x3, .inl (kI, 3000, .inl (fun _ => 0))), (x4, .inr (5, [.ref x5, .ref x6])), (x5, .inr (0, [.int 0, .int 0])), (x6, .inr (2, [.int 0, .int 0, .int 0, .int 0])), (x7, .inr (1, [.ref x8, .int 0])), (x8, .inr (0, [.int 0, .int 0])), (x9, .inr (3, [.ref x10, .int 0])), (x10, .inr (0, [.int 0, .int 0])), (x11, .inr (7, [.ref x12])), (x12, .inr (0, [.int 0, .int 0])), (x13, .inr (6, [.int 0, .int 0, .int 0, .int 0, .int 0])), (x14, .inr (4, [.ref x15, .int (nI ([] : List Int32).length), .int 0])), (x15, .inl (kI, 1500, .inl (fun _ => 0))), (x16, .inr (4, [.ref x17, .int (nI ([] : List Int32).length), .int 0])), (x17, .inl (kI, 1500, .inl (fun _ => 0)))] := hD
  refine lv_astore_n (lv' := [(1, .ref x0), (0, .ref b)]) hx hb d_law_7 rfl hl (by decide) rfl (fun ls hl => ?_)
  refine va_new (ci := 9) (fs := [.null, .null, .null, .null, .null, .int 0, .null, .null, .int 0, .null, .int 0, .null, .null, .int 0, .int 0, .int 0, .int 0, .int 0, .int 0, .int 0, .int 0, .int 0, .int 0]) (C := "MailCharactersModel") (T := F_MM) (N := 23) hx hb hts i_MM t_MM t_MM_ok hown (hts _ k_834) (hts _ k_835) (hts _ k_77) hK hP hD hS hA rfl (fun j hj => match j, hj with | 0, _ => rfl | 1, _ => rfl | 2, _ => rfl | 3, _ => rfl | 4, _ => rfl | 5, _ => rfl | 6, _ => rfl | 7, _ => rfl | 8, _ => rfl | 9, _ => rfl | 10, _ => rfl | 11, _ => rfl | 12, _ => rfl | 13, _ => rfl | 14, _ => rfl | 15, _ => rfl | 16, _ => rfl | 17, _ => rfl | 18, _ => rfl | 19, _ => rfl | 20, _ => rfl | 21, _ => rfl | 22, _ => rfl | k + 23, h => absurd h (by omega)) (by decide +kernel) (by decide +kernel) d_law_8 (fun y0 H hP hD hS => ?_)
  have hP : va_P D vwCl [(x0, .inr (8, [.ref x1, .ref x2, .ref x4, .ref x7, .ref x9, .ref x11, .ref x13, .ref x14, .ref x16])), (x1, .inl (kI, 5, .inl (fun _ => 0))), (x2, .inr (4, [.ref x3, .int (nI ([] : List Int32).length), .int 0])), (x3, .inl (kI, 3000, .inl (fun _ => 0))), (x4, .inr (5, [.ref x5, .ref x6])), (x5, .inr (0, [.int 0, .int 0])), (x6, .inr (2, [.int 0, .int 0, .int 0, .int 0])), (x7, .inr (1, [.ref x8, .int 0])), (x8, .inr (0, [.int 0, .int 0])), (x9, .inr (3, [.ref x10, .int 0])), (x10, .inr (0, [.int 0, .int 0])), (x11, .inr (7, [.ref x12])), (x12, .inr (0, [.int 0, .int 0])), (x13, .inr (6, [.int 0, .int 0, .int 0, .int 0, .int 0])), (x14, .inr (4, [.ref x15, .int (nI ([] : List Int32).length), .int 0])), (x15, .inl (kI, 1500, .inl (fun _ => 0))), (x16, .inr (4, [.ref x17, .int (nI ([] : List Int32).length), .int 0])), (x17, .inl (kI, 1500, .inl (fun _ => 0))), (y0, .inr (9, [.null, .null, .null, .null, .null, .int 0, .null, .null, .int 0, .null, .int 0, .null, .null, .int 0, .int 0, .int 0, .int 0, .int 0, .int 0, .int 0, .int 0, .int 0, .int 0]))] H := hP
  have hD : va_D A [(x0, .inr (8, [.ref x1, .ref x2, .ref x4, .ref x7, .ref x9, .ref x11, .ref x13, .ref x14, .ref x16])), (x1, .inl (kI, 5, .inl (fun _ => 0))), (x2, .inr (4, [.ref x3, .int (nI ([] : List Int32).length), .int 0])), (x3, .inl (kI, 3000, .inl (fun _ => 0))), (x4, .inr (5, [.ref x5, .ref x6])), (x5, .inr (0, [.int 0, .int 0])), (x6, .inr (2, [.int 0, .int 0, .int 0, .int 0])), (x7, .inr (1, [.ref x8, .int 0])), (x8, .inr (0, [.int 0, .int 0])), (x9, .inr (3, [.ref x10, .int 0])), (x10, .inr (0, [.int 0, .int 0])), (x11, .inr (7, [.ref x12])), (x12, .inr (0, [.int 0, .int 0])), (x13, .inr (6, [.int 0, .int 0, .int 0, .int 0, .int 0])), (x14, .inr (4, [.ref x15, .int (nI ([] : List Int32).length), .int 0])), (x15, .inl (kI, 1500, .inl (fun _ => 0))), (x16, .inr (4, [.ref x17, .int (nI ([] : List Int32).length), .int 0])), (x17, .inl (kI, 1500, .inl (fun _ => 0))), (y0, .inr (9, [.null, .null, .null, .null, .null, .int 0, .null, .null, .int 0, .null, .int 0, .null, .null, .int 0, .int 0, .int 0, .int 0, .int 0, .int 0, .int 0, .int 0, .int 0, .int 0]))] := hD
  refine lv_dup hx hb d_law_11 rfl ?_
  refine g_Ic (As := []) (rest := [.ref y0]) (wr := [(x0, .inr (8, [.ref x1, .ref x2, .ref x4, .ref x7, .ref x9, .ref x11, .ref x13, .ref x14, .ref x16])), (x1, .inl (kI, 5, .inl (fun _ => 0))), (x2, .inr (4, [.ref x3, .int (nI ([] : List Int32).length), .int 0])), (x3, .inl (kI, 3000, .inl (fun _ => 0))), (x4, .inr (5, [.ref x5, .ref x6])), (x5, .inr (0, [.int 0, .int 0])), (x6, .inr (2, [.int 0, .int 0, .int 0, .int 0])), (x7, .inr (1, [.ref x8, .int 0])), (x8, .inr (0, [.int 0, .int 0])), (x9, .inr (3, [.ref x10, .int 0])), (x10, .inr (0, [.int 0, .int 0])), (x11, .inr (7, [.ref x12])), (x12, .inr (0, [.int 0, .int 0])), (x13, .inr (6, [.int 0, .int 0, .int 0, .int 0, .int 0])), (x14, .inr (4, [.ref x15, .int (nI ([] : List Int32).length), .int 0])), (x15, .inl (kI, 1500, .inl (fun _ => 0))), (x16, .inr (4, [.ref x17, .int (nI ([] : List Int32).length), .int 0])), (x17, .inl (kI, 1500, .inl (fun _ => 0)))]) ⟨hx, hb, hml, hown, hts⟩ (c_MM_init l D Z kI y0 H.size) (cw_MM_init hts k_836 ⟨Nat.le_of_ble_eq_true rfl, Nat.le_of_ble_eq_true rfl⟩) hK hZ hP hD hS hA [18] [0, 1, 2, 3, 4, 5, 6, 7, 8, 9, 10, 11, 12, 13, 14, 15, 16, 17] rfl rfl (by decide) (by decide) (by decide) rfl hl.1 rfl (Nat.le_of_ble_eq_true rfl) d_law_12 ⟨by decide +kernel, by decide +kernel⟩ (fun u12 H locs hP hD hS => ?_)
  obtain ⟨y1, y2, y3, y4, y5, y6, y7, y8, y9, y10, fy1, fy2, fy3, fy4, fy5⟩ := u12
  have hP : va_P D vwCl [(x0, .inr (8, [.ref x1, .ref x2, .ref x4, .ref x7, .ref x9, .ref x11, .ref x13, .ref x14, .ref x16])), (x1, .inl (kI, 5, .inl (fun _ => 0))), (x2, .inr (4, [.ref x3, .int (nI ([] : List Int32).length), .int 0])), (x3, .inl (kI, 3000, .inl (fun _ => 0))), (x4, .inr (5, [.ref x5, .ref x6])), (x5, .inr (0, [.int 0, .int 0])), (x6, .inr (2, [.int 0, .int 0, .int 0, .int 0])), (x7, .inr (1, [.ref x8, .int 0])), (x8, .inr (0, [.int 0, .int 0])), (x9, .inr (3, [.ref x10, .int 0])), (x10, .inr (0, [.int 0, .int 0])), (x11, .inr (7, [.ref x12])), (x12, .inr (0, [.int 0, .int 0])), (x13, .inr (6, [.int 0, .int 0, .int 0, .int 0, .int 0])), (x14, .inr (4, [.ref x15, .int (nI ([] : List Int32).length), .int 0])), (x15, .inl (kI, 1500, .inl (fun _ => 0))), (x16, .inr (4, [.ref x17, .int (nI ([] : List Int32).length), .int 0])), (x17, .inl (kI, 1500, .inl (fun _ => 0))), (y0, .inr (9, [.ref y1, .ref y2, .ref y3, .ref y4, .ref y5, .int 0, .ref y6, .ref y7, .int 0, .ref y8, .int 0, .ref y9, .ref y10, .int 0, .int 0, .int 0, .int 0, .int 0, .int 0, .int 0, .int 0, .int 0, .int 0])), (y1, .inl ((D.1 101), 27, .inr (.inl fy1))), (y2, .inl ((D.1 101), 27, .inr (.inl fy2))), (y3, .inl (kI, 27, .inl fy3)), (y4, .inl (kI, 32, .inl fy4)), (y5, .inl (kI, 32, .inl fy5)), (y6, .inl ((D.1 100), 20, .inl (fun _ => 0))), (y7, .inl ((D.1 100), 1500, .inl (fun _ => 0))), (y8, .inl (kI, 3000, .inl (fun _ => 0))), (y9, .inl ((D.1 100), 6000, .inl (fun _ => 0))), (y10, .inl ((D.1 100), 1500, .inl (fun _ => 0)))] H := hP
  have hD : va_D A [(x0, .inr (8, [.ref x1, .ref x2, .ref x4, .ref x7, .ref x9, .ref x11, .ref x13, .ref x14, .ref x16])), (x1, .inl (kI, 5, .inl (fun _ => 0))), (x2, .inr (4, [.ref x3, .int (nI ([] : List Int32).length), .int 0])), (x3, .inl (kI, 3000, .inl (fun _ => 0))), (x4, .inr (5, [.ref x5, .ref x6])), (x5, .inr (0, [.int 0, .int 0])), (x6, .inr (2, [.int 0, .int 0, .int 0, .int 0])), (x7, .inr (1, [.ref x8, .int 0])), (x8, .inr (0, [.int 0, .int 0])), (x9, .inr (3, [.ref x10, .int 0])), (x10, .inr (0, [.int 0, .int 0])), (x11, .inr (7, [.ref x12])), (x12, .inr (0, [.int 0, .int 0])), (x13, .inr (6, [.int 0, .int 0, .int 0, .int 0, .int 0])), (x14, .inr (4, [.ref x15, .int (nI ([] : List Int32).length), .int 0])), (x15, .inl (kI, 1500, .inl (fun _ => 0))), (x16, .inr (4, [.ref x17, .int (nI ([] : List Int32).length), .int 0])), (x17, .inl (kI, 1500, .inl (fun _ => 0))), (y0, .inr (9, [.ref y1, .ref y2, .ref y3, .ref y4, .ref y5, .int 0, .ref y6, .ref y7, .int 0, .ref y8, .int 0, .ref y9, .ref y10, .int 0, .int 0, .int 0, .int 0, .int 0, .int 0, .int 0, .int 0, .int 0, .int 0])), (y1, .inl ((D.1 101), 27, .inr (.inl fy1))), (y2, .inl ((D.1 101), 27, .inr (.inl fy2))), (y3, .inl (kI, 27, .inl fy3)), (y4, .inl (kI, 32, .inl fy4)), (y5, .inl (kI, 32, .inl fy5)), (y6, .inl ((D.1 100), 20, .inl (fun _ => 0))), (y7, .inl ((D.1 100), 1500, .inl (fun _ => 0))), (y8, .inl (kI, 3000, .inl (fun _ => 0))), (y9, .inl ((D.1 100), 6000, .inl (fun _ => 0))), (y10, .inl ((D.1 100), 1500, .inl (fun _ => 0)))] := hD
  refine lv_astore_n (lv' := [(2, .ref y0), (1, .ref x0), (0, .ref b)]) hx hb d_law_15 rfl hl (by decide) rfl (fun ls hl => ?_)
  refine lv_iconst (v := 1) hx hb d_law_16 (by decide) ?_
  refine va_newa (atype := .long) (ty := .long) (N' := 1) (a0 := (1, (.inr (.inl (fun _ => 0))))) hx hb (hts _ k_arrLong) rfl hK hP hD hS hA (fun cA => rfl) (by decide +kernel) (by decide +kernel) (by decide +kernel) (by decide +kernel) (by decide +kernel) d_law_17 (fun z0 cA H hKn hP hD hS => ?_)
  have ek := g_kLeq hKn
  subst ek
  have hP : va_P D vwCl [(x0, .inr (8, [.ref x1, .ref x2, .ref x4, .ref x7, .ref x9, .ref x11, .ref x13, .ref x14, .ref x16])), (x1, .inl (kI, 5, .inl (fun _ => 0))), (x2, .inr (4, [.ref x3, .int (nI ([] : List Int32).length), .int 0])), (x3, .inl (kI, 3000, .inl (fun _ => 0))), (x4, .inr (5, [.ref x5, .ref x6])), (x5, .inr (0, [.int 0, .int 0])), (x6, .inr (2, [.int 0, .int 0, .int 0, .int 0])), (x7, .inr (1, [.ref x8, .int 0])), (x8, .inr (0, [.int 0, .int 0])), (x9, .inr (3, [.ref x10, .int 0])), (x10, .inr (0, [.int 0, .int 0])), (x11, .inr (7, [.ref x12])), (x12, .inr (0, [.int 0, .int 0])), (x13, .inr (6, [.int 0, .int 0, .int 0, .int 0, .int 0])), (x14, .inr (4, [.ref x15, .int (nI ([] : List Int32).length), .int 0])), (x15, .inl (kI, 1500, .inl (fun _ => 0))), (x16, .inr (4, [.ref x17, .int (nI ([] : List Int32).length), .int 0])), (x17, .inl (kI, 1500, .inl (fun _ => 0))), (y0, .inr (9, [.ref y1, .ref y2, .ref y3, .ref y4, .ref y5, .int 0, .ref y6, .ref y7, .int 0, .ref y8, .int 0, .ref y9, .ref y10, .int 0, .int 0, .int 0, .int 0, .int 0, .int 0, .int 0, .int 0, .int 0, .int 0])), (y1, .inl ((D.1 101), 27, .inr (.inl fy1))), (y2, .inl ((D.1 101), 27, .inr (.inl fy2))), (y3, .inl (kI, 27, .inl fy3)), (y4, .inl (kI, 32, .inl fy4)), (y5, .inl (kI, 32, .inl fy5)), (y6, .inl ((D.1 100), 20, .inl (fun _ => 0))), (y7, .inl ((D.1 100), 1500, .inl (fun _ => 0))), (y8, .inl (kI, 3000, .inl (fun _ => 0))), (y9, .inl ((D.1 100), 6000, .inl (fun _ => 0))), (y10, .inl ((D.1 100), 1500, .inl (fun _ => 0))), (z0, .inl ((D.1 101), 1, .inr (.inl (fun _ => 0))))] H := hP
  have hD : va_D A [(x0, .inr (8, [.ref x1, .ref x2, .ref x4, .ref x7, .ref x9, .ref x11, .ref x13, .ref x14, .ref x16])), (x1, .inl (kI, 5, .inl (fun _ => 0))), (x2, .inr (4, [.ref x3, .int (nI ([] : List Int32).length), .int 0])), (x3, .inl (kI, 3000, .inl (fun _ => 0))), (x4, .inr (5, [.ref x5, .ref x6])), (x5, .inr (0, [.int 0, .int 0])), (x6, .inr (2, [.int 0, .int 0, .int 0, .int 0])), (x7, .inr (1, [.ref x8, .int 0])), (x8, .inr (0, [.int 0, .int 0])), (x9, .inr (3, [.ref x10, .int 0])), (x10, .inr (0, [.int 0, .int 0])), (x11, .inr (7, [.ref x12])), (x12, .inr (0, [.int 0, .int 0])), (x13, .inr (6, [.int 0, .int 0, .int 0, .int 0, .int 0])), (x14, .inr (4, [.ref x15, .int (nI ([] : List Int32).length), .int 0])), (x15, .inl (kI, 1500, .inl (fun _ => 0))), (x16, .inr (4, [.ref x17, .int (nI ([] : List Int32).length), .int 0])), (x17, .inl (kI, 1500, .inl (fun _ => 0))), (y0, .inr (9, [.ref y1, .ref y2, .ref y3, .ref y4, .ref y5, .int 0, .ref y6, .ref y7, .int 0, .ref y8, .int 0, .ref y9, .ref y10, .int 0, .int 0, .int 0, .int 0, .int 0, .int 0, .int 0, .int 0, .int 0, .int 0])), (y1, .inl ((D.1 101), 27, .inr (.inl fy1))), (y2, .inl ((D.1 101), 27, .inr (.inl fy2))), (y3, .inl (kI, 27, .inl fy3)), (y4, .inl (kI, 32, .inl fy4)), (y5, .inl (kI, 32, .inl fy5)), (y6, .inl ((D.1 100), 20, .inl (fun _ => 0))), (y7, .inl ((D.1 100), 1500, .inl (fun _ => 0))), (y8, .inl (kI, 3000, .inl (fun _ => 0))), (y9, .inl ((D.1 100), 6000, .inl (fun _ => 0))), (y10, .inl ((D.1 100), 1500, .inl (fun _ => 0))), (z0, .inl ((D.1 101), 1, .inr (.inl (fun _ => 0))))] := hD
  refine lv_astore_n (lv' := [(3, .ref z0), (2, .ref y0), (1, .ref x0), (0, .ref b)]) hx hb d_law_19 rfl hl (by decide) rfl (fun ls hl => ?_)
  refine lv_iconst (v := 0) hx hb d_law_20 (by decide) ?_
  refine lv_istore (lv' := [(4, .int 0), (3, .ref z0), (2, .ref y0), (1, .ref x0), (0, .ref b)]) hx hb d_law_21 hl (by decide) rfl (fun ls hl => ?_)
  refine lv_iload hx hb d_law_23 (lv_at hl 0 rfl) ?_
  refine lv_aload_n hx hb d_law_25 rfl (lv_at hl 4 rfl) ?_
  refine va_slen hx hb hX hbl hbA hS d_law_26 ?_
  refine lv_bipush (v := 6) hx hb d_law_27 (by decide) ?_
  refine lv_isub hx hb d_law_29 ?_
  refine lv_icmp_gt (tgt := 527) hx hb d_law_30 (by decide) (fun _ => done _ _ _ _ _ (Nat.le_of_ble_eq_true rfl) (Nat.le_of_ble_eq_true rfl) hS) (fun h6 => ?_)
  obtain rfl := s_L6 hL h6
  have fin : ∀ (H : Heap) (locs : List Loc) (ls : Array Slot) (k n : Nat), k ≤ 31 → n ≤ 18242 → va_S A s.heap H locs → lv_has ls 7 [(4, .int 0), (0, .ref b)] → W p l e room_1 s m #[Value.ref b] below meth c H locs k n (lw_Z below #[Value.ref b] s) (F0 m 521 ls []) := by
    intro H locs ls k n hk hn hS hl
    refine lv_iinc (v := 6) (lv' := [(4, .int 6), (0, .ref b)]) hx hb d_law_521 hl (k := 0) rfl (by decide) (by decide) rfl (fun ls hl => ?_)
    refine lv_goto (tgt := 23) hx hb d_law_524 (by decide) ?_
    refine lv_iload hx hb d_law_23 (lv_at hl 0 rfl) ?_
    refine lv_aload_n hx hb d_law_25 rfl (lv_at hl 1 rfl) ?_
    refine va_slen hx hb hX hbl hbA hS d_law_26 ?_
    refine lv_bipush (v := 6) hx hb d_law_27 (by decide) ?_
    refine lv_isub hx hb d_law_29 ?_
    exact lv_icmp_gt (tgt := 527) hx hb d_law_30 (by decide) (fun _ => done _ _ _ _ _ (by omega) (by omega) hS) (fun h9 => absurd (by decide) h9)
  refine lv_aload_n hx hb d_law_33 rfl (lv_at hl 4 rfl) ?_
  refine lv_iload hx hb d_law_34 (lv_at hl 0 rfl) ?_
  refine va_sld hx hb hX hbl hbA hS (by unfold vp_in; decide +kernel) d_law_36 ?_
  refine lv_bipush (v := 15) hx hb d_law_37 (by decide) ?_
  refine lv_iand hx hb d_law_39 ?_
  refine lv_topi (fun t ht => ?_)
  by_cases c0 : t = 0
  · refine lv_tableIn (off := 60) (tgt := 100) hx hb d_law_40 (by rw [c0]; decide) (by rw [c0]; decide) (by rw [c0]; decide) (by decide) ?_
    exact law_0 hnt hx hb hml hown htl hts hA hK hZ hX hbl hbA fin hP hD hS hl rfl rfl rfl rfl rfl
  by_cases c1 : t = 1
  · refine lv_tableIn (off := 131) (tgt := 171) hx hb d_law_40 (by rw [c1]; decide) (by rw [c1]; decide) (by rw [c1]; decide) (by decide) ?_
    exact law_1 hnt hx hb hml hown htl hts hA hK hZ hX hbl hbA fin hP hD hS hl rfl
  by_cases c2 : t = 2
  · refine lv_tableIn (off := 156) (tgt := 196) hx hb d_law_40 (by rw [c2]; decide) (by rw [c2]; decide) (by rw [c2]; decide) (by decide) ?_
    exact law_2 hnt hx hb hml hown htl hts hA hK hZ hX hbl hbA fin hP hD hS hl
  by_cases c3 : t = 3
  · refine lv_tableIn (off := 169) (tgt := 209) hx hb d_law_40 (by rw [c3]; decide) (by rw [c3]; decide) (by rw [c3]; decide) (by decide) ?_
    exact law_3 hnt hx hb hml hown htl hts hA hK hZ hX hbl hbA fin hP hD hS hl rfl
  by_cases c4 : t = 4
  · refine lv_tableIn (off := 225) (tgt := 265) hx hb d_law_40 (by rw [c4]; decide) (by rw [c4]; decide) (by rw [c4]; decide) (by decide) ?_
    exact law_4 hnt hx hb hml hown htl hts hA hK hZ hX hbl hbA fin hP hD hS hl rfl
  by_cases c5 : t = 5
  · refine lv_tableIn (off := 281) (tgt := 321) hx hb d_law_40 (by rw [c5]; decide) (by rw [c5]; decide) (by rw [c5]; decide) (by decide) ?_
    exact law_5 hnt hx hb hml hown htl hts hA hK hZ hX hbl hbA fin hP hD hS hl
  by_cases c6 : t = 6
  · refine lv_tableIn (off := 294) (tgt := 334) hx hb d_law_40 (by rw [c6]; decide) (by rw [c6]; decide) (by rw [c6]; decide) (by decide) ?_
    exact law_6 hnt hx hb hml hown htl hts hA hK hZ hX hbl hbA fin hP hD hS hl rfl
  by_cases c7 : t = 7
  · refine lv_tableIn (off := 350) (tgt := 390) hx hb d_law_40 (by rw [c7]; decide) (by rw [c7]; decide) (by rw [c7]; decide) (by decide) ?_
    exact law_7 hnt hx hb hml hown htl hts hA hK hZ hX hbl hbA fin hP hD hS hl rfl
  by_cases c8 : t = 8
  · refine lv_tableIn (off := 406) (tgt := 446) hx hb d_law_40 (by rw [c8]; decide) (by rw [c8]; decide) (by rw [c8]; decide) (by decide) ?_
    exact law_8 hnt hx hb hml hown htl hts hA hK hZ hX hbl hbA fin hP hD hS hl rfl
  by_cases c9 : t = 9
  · refine lv_tableIn (off := 431) (tgt := 471) hx hb d_law_40 (by rw [c9]; decide) (by rw [c9]; decide) (by rw [c9]; decide) (by decide) ?_
    exact law_9 hnt hx hb hml hown htl hts hA hK hZ hX hbl hbA fin hP hD hS hl rfl
  by_cases c10 : t = 10
  · refine lv_tableIn (off := 456) (tgt := 496) hx hb d_law_40 (by rw [c10]; decide) (by rw [c10]; decide) (by rw [c10]; decide) (by decide) ?_
    exact law_10 hnt hx hb hml hown htl hts hA hK hZ hX hbl hbA fin hP hD hS hl rfl
  refine lv_tableOut (tgt := 521) hx hb d_law_40 (by have := lv_neT c0 (a := 0) (by decide); have := lv_neT c1 (a := 1) (by decide); have := lv_neT c2 (a := 2) (by decide); have := lv_neT c3 (a := 3) (by decide); have := lv_neT c4 (a := 4) (by decide); have := lv_neT c5 (a := 5) (by decide); have := lv_neT c6 (a := 6) (by decide); have := lv_neT c7 (a := 7) (by decide); have := lv_neT c8 (a := 8) (by decide); have := lv_neT c9 (a := 9) (by decide); have := lv_neT c10 (a := 10) (by decide); omega) (by decide) ?_
  exact fin _ _ _ _ _ (Nat.le_of_ble_eq_true rfl) (Nat.le_of_ble_eq_true rfl) hS (lv_sub hl [0, 4] rfl)
