theorem cw_MC_uncode_t {R : Room} {s : State} {args : Array Value} {own : String} {idx : Nat} (hts : ∀ w ∈ gW, w.before args s = true) (hl : Cond.methodLink own idx y_MC_uncode ∈ gW) (hR : rm_MC_uncode_t.frames + 1 ≤ R.frames ∧ 8 + (2 + 11) + rm_MC_uncode_t.locals ≤ R.locals) : CallW R s args own "MailCharacters" idx y_MC_uncode b_MC_uncode 2 (some .int) w_MC_uncode rm_MC_uncode_t 1 6 1 := cwV 1 hts (gW_V hl k_538 k_539 k_67 k_540) rfl rfl rfl (by decide +kernel) hR
def rm_ML_uncode : Room := { frames := 9, cells := 1, slots := 6, locals := 197 }
set_option maxHeartbeats 4000000 in
set_option maxRecDepth 100000 in
theorem c_ML_uncode (l : Launch) (hnt : ∀ e, l.admits e → e.platform.stackTraces = false) (D : va_G) (Z : gZT) (kI : ClassId) (a0 : Nat) (x0_ready : Nat) (x0_text : Nat) (x0_coder : Nat) (x0_reader : Nat) (x0_writer : Nat) (x0_word : Nat) (a1 : Nat) (b1 : Nat) (n1 : Nat) (a2 : Nat) (b2 : Nat) (n2 : Nat) (a3 : Nat) (a4 : Nat) (a5 : Nat) (sz : Nat) (f1 : Nat → Int32) (l1 : List Int32) (o1 : Int32) (f2 : Nat → Int32) (l2 : List Int32) (o2 : Int32) (v4_from : Int32) (v4_to : Int32) (v4_ended : Int32) (v4_next : Int32) (v5_value : Int32) (v5_held : Int32) (p1 : Int32) (hr1 : g_rw n1 f1 l1) (hr2 : g_rw n2 f2 l2) (aO : Nat) (g : Nat → Int64) (K R : Int32) (hKR : (m_MC_uncode_t a1 a2 n2 l1 l2 o2 v4_from v4_to v4_ended v4_next v5_value v5_held p1).1 = K ∧ (m_MC_uncode_t a1 a2 n2 l1 l2 o2 v4_from v4_to v4_ended v4_next v5_value v5_held p1).2.1 = R) (hK01 : K = 0 ∨ K = 1) : gMt l y_ML_uncode w_ML_uncode rm_ML_uncode D Z kI [.ref a0, .int p1, .ref aO] sz [(aO, .inl (D.1 101, 1, .inr (.inl g))), (a0, .inr (8, [.ref x0_ready, .ref x0_text, .ref a3, .ref x0_coder, .ref x0_reader, .ref x0_writer, .ref x0_word, .ref a1, .ref a2])), (a1, .inr (4, [.ref b1, .int (nI l1.length), .int o1])), (b1, .inl (kI, n1, .inl f1)), (a2, .inr (4, [.ref b2, .int (nI l2.length), .int o2])), (b2, .inl (kI, n2, .inl f2)), (a3, .inr (5, [.ref a5, .ref a4])), (a4, .inr (2, [.int v4_from, .int v4_to, .int v4_ended, .int v4_next])), (a5, .inr (0, [.int v5_value, .int v5_held]))] (fun (k r : Int32) (u : (Nat × Nat × (Nat → Int32) × List Int32 × Int32 × Int32 × Int32 × Int32 × Int32 × Int32 × Int32) × (Nat → Int64)) => k = 0 ∧ (r = K ∧ (K = 0 → u.2 0 = R.toInt64))) (fun (u : (Nat × Nat × (Nat → Int32) × List Int32 × Int32 × Int32 × Int32 × Int32 × Int32 × Int32 × Int32) × (Nat → Int64)) => ([(aO, .inl (D.1 101, 1, .inr (.inl u.2))), (a0, .inr (8, [.ref x0_ready, .ref x0_text, .ref a3, .ref x0_coder, .ref x0_reader, .ref x0_writer, .ref x0_word, .ref u.1.1, .ref u.1.2.1])), (a1, .inr (4, [.ref b1, .int (nI l1.length), .int o1])), (b1, .inl (kI, n1, .inl f1)), (a2, .inr (4, [.ref b2, .int (nI u.1.2.2.2.1.length), .int u.1.2.2.2.2.1])), (b2, .inl (kI, n2, .inl u.1.2.2.1)), (a3, .inr (5, [.ref a5, .ref a4])), (a4, .inr (2, [.int u.1.2.2.2.2.2.1, .int u.1.2.2.2.2.2.2.1, .int u.1.2.2.2.2.2.2.2.1, .int u.1.2.2.2.2.2.2.2.2.1])), (a5, .inr (0, [.int u.1.2.2.2.2.2.2.2.2.2.1, .int u.1.2.2.2.2.2.2.2.2.2.2]))] : va_W)) 1 6 := by
  refine g_ofw (cc := b_ML_uncode) (maxL := 4) (hs := h_ML_uncode) (by decide) rfl (Nat.le_of_ble_eq_true rfl) ?_
  intro p e s m below meth c A Q H ls hx hb hml hown hts hA hK hZ hP hD hS hl htb hret
  have hown : s.vm.findClass "MailCharactersLaw" = some m.cls := hown
  have hl : lv_has ls 4 [(0, .ref a0), (1, .int p1), (2, .ref aO)] := hl
  refine lv_aload_n hx hb d_ML_uncode_0 rfl (lv_at hl 2 rfl) ?_
  refine lv_iconst (v := 0) hx hb d_ML_uncode_1 (by decide) ?_
  refine lv_aload_n hx hb d_ML_uncode_2 rfl (lv_at hl 0 rfl) ?_
  refine lv_iload_n hx hb d_ML_uncode_3 rfl (lv_at hl 1 rfl) ?_
  refine g_Vt (As := [.int p1]) (rest := [.int 0, .ref aO]) (wr := [(aO, .inl (D.1 101, 1, .inr (.inl g)))]) ⟨hx, hb, hml, hown, hts⟩ (c_MC_uncode_t l hnt D Z kI a0 x0_ready x0_text x0_coder x0_reader x0_writer x0_word a1 b1 n1 a2 b2 n2 a3 a4 a5 H.size f1 l1 o1 f2 l2 o2 v4_from v4_to v4_ended v4_next v5_value v5_held p1 hr1 hr2) (cw_MC_uncode_t hts k_537 ⟨Nat.le_of_ble_eq_true rfl, Nat.le_of_ble_eq_true rfl⟩) hK hZ hP hD hS hA [1, 2, 3, 4, 5, 6, 7, 8] [0] (g_recv hK hP (ci := 8) (q0 := 1) rfl rfl) rfl rfl (by decide) (by decide) (by decide) rfl hl.1 rfl (Nat.le_of_ble_eq_true rfl) d_ML_uncode_4 ⟨Nat.le_of_ble_eq_true rfl, Nat.le_of_ble_eq_true rfl⟩ (fun r u H locs hw hP hD hS => ?_) (fun k u x ce H locs r hk0 hw hP hD hS hce hcv hcl T hT X => ?_)
  · have h9 := hw.1
    have hR : R = r := hKR.2.symm.trans (congrArg (fun z => z.2.1) h9)
    have hK9 : K = 0 := hKR.1.symm.trans (congrArg (fun z => z.1) h9)
    subst hR
    refine lv_i2l hx hb d_ML_uncode_7 rfl ?_
    refine va_last hx hb hK hP hD hS 0 2 rfl rfl (by unfold vp_in; decide +kernel) d_ML_uncode_8 (fun H locs hP hD hS => ?_)
    refine lv_goto (tgt := 15) hx hb d_ML_uncode_9 (by decide) ?_
    refine lv_iconst (v := 0) hx hb d_ML_uncode_15 (by decide) ?_
    exact hret 0 (u, vp_updL g (0 : Int32).toNatClampNeg R.toInt64) _ _ _ _ d_ML_uncode_16 ⟨hK9.symm, fun _ => rfl⟩ hP hD hS
  · have h9 := hw.1
    have hK9 : K = k := hKR.1.symm.trans (congrArg (fun z => z.1) h9)
    have hk1 : k = 1 := by rcases hK01 with h | h; exact absurd (hK9.symm.trans h) hk0; exact hK9.symm.trans h
    subst hk1
    rw [gE1] at hcl
    obtain ⟨cC, kC, hfc, hkc, -⟩ := Cond.instantiable_spec (hts _ k_542)
    cases hcl.symm.trans hfc
    refine g_catch (pre := []) (suf := []) (x := ⟨0, 9, 12, 13⟩) X rfl hown htb (fun y hy => absurd hy (List.not_mem_nil)) rfl (by decide) (hts _ k_536) hcl (va_asg _ _) (by rw [hT]; exact hce) hcv ⟨kC, hkc⟩ ?_
    rw [hT]
    refine W.eq (g2 := F0 m 12 ls [.ref x]) rfl ?_
    refine lv_astore_n (lv' := [(3, .ref x), (0, .ref a0), (1, .int p1), (2, .ref aO)]) hx hb d_ML_uncode_12 rfl hl (by decide) rfl (fun ls hl => ?_)
    refine lv_iconst (v := 1) hx hb d_ML_uncode_13 (by decide) ?_
    exact hret 1 (u, g) _ _ _ _ d_ML_uncode_14 ⟨hK9.symm, fun h => absurd (hK9.symm.trans h) (by decide)⟩ hP hD hS
theorem cw_MC_read_t {R : Room} {s : State} {args : Array Value} {own : String} {idx : Nat} (hts : ∀ w ∈ gW, w.before args s = true) (hl : Cond.methodLink own idx y_MC_read ∈ gW) (hR : rm_MC_read_t.frames + 1 ≤ R.frames ∧ 8 + (2 + 11) + rm_MC_read_t.locals ≤ R.locals) : CallW R s args own "MailCharacters" idx y_MC_read b_MC_read 2 (some .int) w_MC_read rm_MC_read_t 1 6 1 := cwV 1 hts (gW_V hl k_665 k_666 k_67 k_667) rfl rfl rfl (by decide +kernel) hR
def rm_ML_read : Room := { frames := 7, cells := 1, slots := 6, locals := 165 }
set_option maxHeartbeats 4000000 in
set_option maxRecDepth 100000 in
theorem c_ML_read (l : Launch) (hnt : ∀ e, l.admits e → e.platform.stackTraces = false) (D : va_G) (Z : gZT) (kI : ClassId) (a0 : Nat) (x0_ready : Nat) (x0_uncoder : Nat) (x0_coder : Nat) (x0_writer : Nat) (x0_word : Nat) (x0_spare : Nat) (a1 : Nat) (b1 : Nat) (n1 : Nat) (a2 : Nat) (b2 : Nat) (n2 : Nat) (a3 : Nat) (a4 : Nat) (sz : Nat) (f1 : Nat → Int32) (l1 : List Int32) (o1 : Int32) (f2 : Nat → Int32) (l2 : List Int32) (o2 : Int32) (v3_firstHalf : Int32) (v4_value : Int32) (v4_held : Int32) (p1 : Int32) (hr1 : g_rw n1 f1 l1) (hr2 : g_rw n2 f2 l2) (aO : Nat) (g : Nat → Int64) (K R : Int32) (hKR : (m_MC_read_t n1 l1 o1 l2 o2 v3_firstHalf v4_value v4_held p1).1 = K ∧ (m_MC_read_t n1 l1 o1 l2 o2 v3_firstHalf v4_value v4_held p1).2.1 = R) (hK01 : K = 0 ∨ K = 1) : gMt l y_ML_read w_ML_read rm_ML_read D Z kI [.ref a0, .int p1, .ref aO] sz [(aO, .inl (D.1 101, 1, .inr (.inl g))), (a0, .inr (8, [.ref x0_ready, .ref a1, .ref x0_uncoder, .ref x0_coder, .ref a3, .ref x0_writer, .ref x0_word, .ref a2, .ref x0_spare])), (a1, .inr (4, [.ref b1, .int (nI l1.length), .int o1])), (b1, .inl (kI, n1, .inl f1)), (a2, .inr (4, [.ref b2, .int (nI l2.length), .int o2])), (b2, .inl (kI, n2, .inl f2)), (a3, .inr (3, [.ref a4, .int v3_firstHalf])), (a4, .inr (0, [.int v4_value, .int v4_held]))] (fun (k r : Int32) (u : ((Nat → Int32) × List Int32 × Int32 × (Nat → Int32) × List Int32 × Int32 × Int32 × Int32 × Int32) × (Nat → Int64)) => k = 0 ∧ (r = K ∧ (K = 0 → u.2 0 = R.toInt64))) (fun (u : ((Nat → Int32) × List Int32 × Int32 × (Nat → Int32) × List Int32 × Int32 × Int32 × Int32 × Int32) × (Nat → Int64)) => ([(aO, .inl (D.1 101, 1, .inr (.inl u.2))), (a0, .inr (8, [.ref x0_ready, .ref a1, .ref x0_uncoder, .ref x0_coder, .ref a3, .ref x0_writer, .ref x0_word, .ref a2, .ref x0_spare])), (a1, .inr (4, [.ref b1, .int (nI u.1.2.1.length), .int u.1.2.2.1])), (b1, .inl (kI, n1, .inl u.1.1)), (a2, .inr (4, [.ref b2, .int (nI u.1.2.2.2.2.1.length), .int u.1.2.2.2.2.2.1])), (b2, .inl (kI, n2, .inl u.1.2.2.2.1)), (a3, .inr (3, [.ref a4, .int u.1.2.2.2.2.2.2.1])), (a4, .inr (0, [.int u.1.2.2.2.2.2.2.2.1, .int u.1.2.2.2.2.2.2.2.2]))] : va_W)) 1 6 := by
  refine g_ofw (cc := b_ML_read) (maxL := 4) (hs := h_ML_read) (by decide) rfl (Nat.le_of_ble_eq_true rfl) ?_
  intro p e s m below meth c A Q H ls hx hb hml hown hts hA hK hZ hP hD hS hl htb hret
  have hown : s.vm.findClass "MailCharactersLaw" = some m.cls := hown
  have hl : lv_has ls 4 [(0, .ref a0), (1, .int p1), (2, .ref aO)] := hl
  refine lv_aload_n hx hb d_ML_read_0 rfl (lv_at hl 2 rfl) ?_
  refine lv_iconst (v := 0) hx hb d_ML_read_1 (by decide) ?_
  refine lv_aload_n hx hb d_ML_read_2 rfl (lv_at hl 0 rfl) ?_
  refine lv_iload_n hx hb d_ML_read_3 rfl (lv_at hl 1 rfl) ?_
  refine g_Vt (As := [.int p1]) (rest := [.int 0, .ref aO]) (wr := [(aO, .inl (D.1 101, 1, .inr (.inl g)))]) ⟨hx, hb, hml, hown, hts⟩ (c_MC_read_t l hnt D Z kI a0 x0_ready x0_uncoder x0_coder x0_writer x0_word x0_spare a1 b1 n1 a2 b2 n2 a3 a4 H.size f1 l1 o1 f2 l2 o2 v3_firstHalf v4_value v4_held p1 hr1 hr2) (cw_MC_read_t hts k_664 ⟨Nat.le_of_ble_eq_true rfl, Nat.le_of_ble_eq_true rfl⟩) hK hZ hP hD hS hA [1, 2, 3, 4, 5, 6, 7] [0] (g_recv hK hP (ci := 8) (q0 := 1) rfl rfl) rfl rfl (by decide) (by decide) (by decide) rfl hl.1 rfl (Nat.le_of_ble_eq_true rfl) d_ML_read_4 ⟨Nat.le_of_ble_eq_true rfl, Nat.le_of_ble_eq_true rfl⟩ (fun r u H locs hw hP hD hS => ?_) (fun k u x ce H locs r hk0 hw hP hD hS hce hcv hcl T hT X => ?_)
  · have h9 := hw.1
    have hR : R = r := hKR.2.symm.trans (congrArg (fun z => z.2.1) h9)
    have hK9 : K = 0 := hKR.1.symm.trans (congrArg (fun z => z.1) h9)
    subst hR
    refine lv_i2l hx hb d_ML_read_7 rfl ?_
    refine va_last hx hb hK hP hD hS 0 2 rfl rfl (by unfold vp_in; decide +kernel) d_ML_read_8 (fun H locs hP hD hS => ?_)
    refine lv_goto (tgt := 15) hx hb d_ML_read_9 (by decide) ?_
    refine lv_iconst (v := 0) hx hb d_ML_read_15 (by decide) ?_
    exact hret 0 (u, vp_updL g (0 : Int32).toNatClampNeg R.toInt64) _ _ _ _ d_ML_read_16 ⟨hK9.symm, fun _ => rfl⟩ hP hD hS
  · have h9 := hw.1
    have hK9 : K = k := hKR.1.symm.trans (congrArg (fun z => z.1) h9)
    have hk1 : k = 1 := by rcases hK01 with h | h; exact absurd (hK9.symm.trans h) hk0; exact hK9.symm.trans h
    subst hk1
    rw [gE1] at hcl
    obtain ⟨cC, kC, hfc, hkc, -⟩ := Cond.instantiable_spec (hts _ k_542)
    cases hcl.symm.trans hfc
    refine g_catch (pre := []) (suf := []) (x := ⟨0, 9, 12, 13⟩) X rfl hown htb (fun y hy => absurd hy (List.not_mem_nil)) rfl (by decide) (hts _ k_536) hcl (va_asg _ _) (by rw [hT]; exact hce) hcv ⟨kC, hkc⟩ ?_
    rw [hT]
    refine W.eq (g2 := F0 m 12 ls [.ref x]) rfl ?_
    refine lv_astore_n (lv' := [(3, .ref x), (0, .ref a0), (1, .int p1), (2, .ref aO)]) hx hb d_ML_read_12 rfl hl (by decide) rfl (fun ls hl => ?_)
    refine lv_iconst (v := 1) hx hb d_ML_read_13 (by decide) ?_
    exact hret 1 (u, g) _ _ _ _ d_ML_read_14 ⟨hK9.symm, fun h => absurd (hK9.symm.trans h) (by decide)⟩ hP hD hS
theorem cw_MC_write_t {R : Room} {s : State} {args : Array Value} {own : String} {idx : Nat} (hts : ∀ w ∈ gW, w.before args s = true) (hl : Cond.methodLink own idx y_MC_write ∈ gW) (hR : rm_MC_write_t.frames + 1 ≤ R.frames ∧ 8 + (2 + 11) + rm_MC_write_t.locals ≤ R.locals) : CallW R s args own "MailCharacters" idx y_MC_write b_MC_write 2 (some .int) w_MC_write rm_MC_write_t 1 6 1 := cwV 1 hts (gW_V hl k_676 k_677 k_67 k_678) rfl rfl rfl (by decide +kernel) hR
def rm_ML_write : Room := { frames := 7, cells := 1, slots := 6, locals := 142 }
set_option maxHeartbeats 4000000 in
set_option maxRecDepth 100000 in
theorem c_ML_write (l : Launch) (hnt : ∀ e, l.admits e → e.platform.stackTraces = false) (D : va_G) (Z : gZT) (kI : ClassId) (a0 : Nat) (x0_ready : Nat) (x0_uncoder : Nat) (x0_coder : Nat) (x0_reader : Nat) (x0_word : Nat) (x0_spare : Nat) (a1 : Nat) (b1 : Nat) (n1 : Nat) (a2 : Nat) (b2 : Nat) (n2 : Nat) (a3 : Nat) (a4 : Nat) (sz : Nat) (f1 : Nat → Int32) (l1 : List Int32) (o1 : Int32) (f2 : Nat → Int32) (l2 : List Int32) (o2 : Int32) (v4_value : Int32) (v4_held : Int32) (p1 : Int32) (hr1 : g_rw n1 f1 l1) (hr2 : g_rw n2 f2 l2) (aO : Nat) (g : Nat → Int64) (K R : Int32) (hKR : (m_MC_write_t n1 l1 o1 l2 v4_value v4_held p1).1 = K ∧ (m_MC_write_t n1 l1 o1 l2 v4_value v4_held p1).2.1 = R) (hK01 : K = 0 ∨ K = 1) : gMt l y_ML_write w_ML_write rm_ML_write D Z kI [.ref a0, .int p1, .ref aO] sz [(aO, .inl (D.1 101, 1, .inr (.inl g))), (a0, .inr (8, [.ref x0_ready, .ref a2, .ref x0_uncoder, .ref x0_coder, .ref x0_reader, .ref a3, .ref x0_word, .ref a1, .ref x0_spare])), (a1, .inr (4, [.ref b1, .int (nI l1.length), .int o1])), (b1, .inl (kI, n1, .inl f1)), (a2, .inr (4, [.ref b2, .int (nI l2.length), .int o2])), (b2, .inl (kI, n2, .inl f2)), (a3, .inr (7, [.ref a4])), (a4, .inr (0, [.int v4_value, .int v4_held]))] (fun (k r : Int32) (u : ((Nat → Int32) × List Int32 × Int32 × Int32 × Int32) × (Nat → Int64)) => k = 0 ∧ (r = K ∧ (K = 0 → u.2 0 = R.toInt64))) (fun (u : ((Nat → Int32) × List Int32 × Int32 × Int32 × Int32) × (Nat → Int64)) => ([(aO, .inl (D.1 101, 1, .inr (.inl u.2))), (a0, .inr (8, [.ref x0_ready, .ref a2, .ref x0_uncoder, .ref x0_coder, .ref x0_reader, .ref a3, .ref x0_word, .ref a1, .ref x0_spare])), (a1, .inr (4, [.ref b1, .int (nI u.1.2.1.length), .int u.1.2.2.1])), (b1, .inl (kI, n1, .inl u.1.1)), (a2, .inr (4, [.ref b2, .int (nI l2.length), .int o2])), (b2, .inl (kI, n2, .inl f2)), (a3, .inr (7, [.ref a4])), (a4, .inr (0, [.int u.1.2.2.2.1, .int u.1.2.2.2.2]))] : va_W)) 1 6 := by
  refine g_ofw (cc := b_ML_write) (maxL := 4) (hs := h_ML_write) (by decide) rfl (Nat.le_of_ble_eq_true rfl) ?_
  intro p e s m below meth c A Q H ls hx hb hml hown hts hA hK hZ hP hD hS hl htb hret
  have hown : s.vm.findClass "MailCharactersLaw" = some m.cls := hown
  have hl : lv_has ls 4 [(0, .ref a0), (1, .int p1), (2, .ref aO)] := hl
  refine lv_aload_n hx hb d_ML_write_0 rfl (lv_at hl 2 rfl) ?_
  refine lv_iconst (v := 0) hx hb d_ML_write_1 (by decide) ?_
  refine lv_aload_n hx hb d_ML_write_2 rfl (lv_at hl 0 rfl) ?_
  refine lv_iload_n hx hb d_ML_write_3 rfl (lv_at hl 1 rfl) ?_
  refine g_Vt (As := [.int p1]) (rest := [.int 0, .ref aO]) (wr := [(aO, .inl (D.1 101, 1, .inr (.inl g)))]) ⟨hx, hb, hml, hown, hts⟩ (c_MC_write_t l hnt D Z kI a0 x0_ready x0_uncoder x0_coder x0_reader x0_word x0_spare a1 b1 n1 a2 b2 n2 a3 a4 H.size f1 l1 o1 f2 l2 o2 v4_value v4_held p1 hr1 hr2) (cw_MC_write_t hts k_675 ⟨Nat.le_of_ble_eq_true rfl, Nat.le_of_ble_eq_true rfl⟩) hK hZ hP hD hS hA [1, 2, 3, 4, 5, 6, 7] [0] (g_recv hK hP (ci := 8) (q0 := 1) rfl rfl) rfl rfl (by decide) (by decide) (by decide) rfl hl.1 rfl (Nat.le_of_ble_eq_true rfl) d_ML_write_4 ⟨Nat.le_of_ble_eq_true rfl, Nat.le_of_ble_eq_true rfl⟩ (fun r u H locs hw hP hD hS => ?_) (fun k u x ce H locs r hk0 hw hP hD hS hce hcv hcl T hT X => ?_)
  · have h9 := hw.1
    have hR : R = r := hKR.2.symm.trans (congrArg (fun z => z.2.1) h9)
    have hK9 : K = 0 := hKR.1.symm.trans (congrArg (fun z => z.1) h9)
    subst hR
    refine lv_i2l hx hb d_ML_write_7 rfl ?_
    refine va_last hx hb hK hP hD hS 0 2 rfl rfl (by unfold vp_in; decide +kernel) d_ML_write_8 (fun H locs hP hD hS => ?_)
    refine lv_goto (tgt := 15) hx hb d_ML_write_9 (by decide) ?_
    refine lv_iconst (v := 0) hx hb d_ML_write_15 (by decide) ?_
    exact hret 0 (u, vp_updL g (0 : Int32).toNatClampNeg R.toInt64) _ _ _ _ d_ML_write_16 ⟨hK9.symm, fun _ => rfl⟩ hP hD hS
  · have h9 := hw.1
    have hK9 : K = k := hKR.1.symm.trans (congrArg (fun z => z.1) h9)
    have hk1 : k = 1 := by rcases hK01 with h | h; exact absurd (hK9.symm.trans h) hk0; exact hK9.symm.trans h
    subst hk1
    rw [gE1] at hcl
    obtain ⟨cC, kC, hfc, hkc, -⟩ := Cond.instantiable_spec (hts _ k_542)
    cases hcl.symm.trans hfc
    refine g_catch (pre := []) (suf := []) (x := ⟨0, 9, 12, 13⟩) X rfl hown htb (fun y hy => absurd hy (List.not_mem_nil)) rfl (by decide) (hts _ k_536) hcl (va_asg _ _) (by rw [hT]; exact hce) hcv ⟨kC, hkc⟩ ?_
    rw [hT]
    refine W.eq (g2 := F0 m 12 ls [.ref x]) rfl ?_
    refine lv_astore_n (lv' := [(3, .ref x), (0, .ref a0), (1, .int p1), (2, .ref aO)]) hx hb d_ML_write_12 rfl hl (by decide) rfl (fun ls hl => ?_)
    refine lv_iconst (v := 1) hx hb d_ML_write_13 (by decide) ?_
    exact hret 1 (u, g) _ _ _ _ d_ML_write_14 ⟨hK9.symm, fun h => absurd (hK9.symm.trans h) (by decide)⟩ hP hD hS
theorem cw_MC_code_t {R : Room} {s : State} {args : Array Value} {own : String} {idx : Nat} (hts : ∀ w ∈ gW, w.before args s = true) (hl : Cond.methodLink own idx y_MC_code ∈ gW) (hR : rm_MC_code_t.frames + 1 ≤ R.frames ∧ 8 + (2 + 11) + rm_MC_code_t.locals ≤ R.locals) : CallW R s args own "MailCharacters" idx y_MC_code b_MC_code 2 (some .int) w_MC_code rm_MC_code_t 1 6 1 := cwV 1 hts (gW_V hl k_770 k_771 k_67 k_772) rfl rfl rfl (by decide +kernel) hR
def rm_ML_code : Room := { frames := 9, cells := 1, slots := 6, locals := 196 }
set_option maxHeartbeats 4000000 in
set_option maxRecDepth 100000 in
theorem c_ML_code (l : Launch) (hnt : ∀ e, l.admits e → e.platform.stackTraces = false) (D : va_G) (Z : gZT) (kI : ClassId) (a0 : Nat) (x0_ready : Nat) (x0_text : Nat) (x0_uncoder : Nat) (x0_reader : Nat) (x0_writer : Nat) (x0_word : Nat) (a1 : Nat) (b1 : Nat) (n1 : Nat) (a2 : Nat) (a3 : Nat) (b3 : Nat) (n3 : Nat) (a4 : Nat) (sz : Nat) (f1 : Nat → Int32) (l1 : List Int32) (o1 : Int32) (v2_inLine : Int32) (f3 : Nat → Int32) (l3 : List Int32) (o3 : Int32) (v4_value : Int32) (v4_held : Int32) (p1 : Int32) (hr1 : g_rw n1 f1 l1) (hr3 : g_rw n3 f3 l3) (aO : Nat) (g : Nat → Int64) (K R : Int32) (hKR : (m_MC_code_t a1 n1 a3 l1 o1 v2_inLine l3 v4_value v4_held p1).1 = K ∧ (m_MC_code_t a1 n1 a3 l1 o1 v2_inLine l3 v4_value v4_held p1).2.1 = R) (hK01 : K = 0 ∨ K = 1) : gMt l y_ML_code w_ML_code rm_ML_code D Z kI [.ref a0, .int p1, .ref aO] sz [(aO, .inl (D.1 101, 1, .inr (.inl g))), (a0, .inr (8, [.ref x0_ready, .ref x0_text, .ref x0_uncoder, .ref a2, .ref x0_reader, .ref x0_writer, .ref x0_word, .ref a3, .ref a1])), (a1, .inr (4, [.ref b1, .int (nI l1.length), .int o1])), (b1, .inl (kI, n1, .inl f1)), (a2, .inr (1, [.ref a4, .int v2_inLine])), (a3, .inr (4, [.ref b3, .int (nI l3.length), .int o3])), (b3, .inl (kI, n3, .inl f3)), (a4, .inr (0, [.int v4_value, .int v4_held]))] (fun (k r : Int32) (u : (Nat × Nat × (Nat → Int32) × List Int32 × Int32 × Int32 × Int32 × Int32) × (Nat → Int64)) => k = 0 ∧ (r = K ∧ (K = 0 → u.2 0 = R.toInt64))) (fun (u : (Nat × Nat × (Nat → Int32) × List Int32 × Int32 × Int32 × Int32 × Int32) × (Nat → Int64)) => ([(aO, .inl (D.1 101, 1, .inr (.inl u.2))), (a0, .inr (8, [.ref x0_ready, .ref x0_text, .ref x0_uncoder, .ref a2, .ref x0_reader, .ref x0_writer, .ref x0_word, .ref u.1.1, .ref u.1.2.1])), (a1, .inr (4, [.ref b1, .int (nI u.1.2.2.2.1.length), .int u.1.2.2.2.2.1])), (b1, .inl (kI, n1, .inl u.1.2.2.1)), (a2, .inr (1, [.ref a4, .int u.1.2.2.2.2.2.1])), (a3, .inr (4, [.ref b3, .int (nI l3.length), .int o3])), (b3, .inl (kI, n3, .inl f3)), (a4, .inr (0, [.int u.1.2.2.2.2.2.2.1, .int u.1.2.2.2.2.2.2.2]))] : va_W)) 1 6 := by
  refine g_ofw (cc := b_ML_code) (maxL := 4) (hs := h_ML_code) (by decide) rfl (Nat.le_of_ble_eq_true rfl) ?_
  intro p e s m below meth c A Q H ls hx hb hml hown hts hA hK hZ hP hD hS hl htb hret
  have hown : s.vm.findClass "MailCharactersLaw" = some m.cls := hown
  have hl : lv_has ls 4 [(0, .ref a0), (1, .int p1), (2, .ref aO)] := hl
  refine lv_aload_n hx hb d_ML_code_0 rfl (lv_at hl 2 rfl) ?_
  refine lv_iconst (v := 0) hx hb d_ML_code_1 (by decide) ?_
  refine lv_aload_n hx hb d_ML_code_2 rfl (lv_at hl 0 rfl) ?_
  refine lv_iload_n hx hb d_ML_code_3 rfl (lv_at hl 1 rfl) ?_
  refine g_Vt (As := [.int p1]) (rest := [.int 0, .ref aO]) (wr := [(aO, .inl (D.1 101, 1, .inr (.inl g)))]) ⟨hx, hb, hml, hown, hts⟩ (c_MC_code_t l hnt D Z kI a0 x0_ready x0_text x0_uncoder x0_reader x0_writer x0_word a1 b1 n1 a2 a3 b3 n3 a4 H.size f1 l1 o1 v2_inLine f3 l3 o3 v4_value v4_held p1 hr1 hr3) (cw_MC_code_t hts k_769 ⟨Nat.le_of_ble_eq_true rfl, Nat.le_of_ble_eq_true rfl⟩) hK hZ hP hD hS hA [1, 2, 3, 4, 5, 6, 7] [0] (g_recv hK hP (ci := 8) (q0 := 1) rfl rfl) rfl rfl (by decide) (by decide) (by decide) rfl hl.1 rfl (Nat.le_of_ble_eq_true rfl) d_ML_code_4 ⟨Nat.le_of_ble_eq_true rfl, Nat.le_of_ble_eq_true rfl⟩ (fun r u H locs hw hP hD hS => ?_) (fun k u x ce H locs r hk0 hw hP hD hS hce hcv hcl T hT X => ?_)
  · have h9 := hw.1
    have hR : R = r := hKR.2.symm.trans (congrArg (fun z => z.2.1) h9)
    have hK9 : K = 0 := hKR.1.symm.trans (congrArg (fun z => z.1) h9)
    subst hR
    refine lv_i2l hx hb d_ML_code_7 rfl ?_
    refine va_last hx hb hK hP hD hS 0 2 rfl rfl (by unfold vp_in; decide +kernel) d_ML_code_8 (fun H locs hP hD hS => ?_)
    refine lv_goto (tgt := 18) hx hb d_ML_code_9 (by decide) ?_
    refine lv_iconst (v := 0) hx hb d_ML_code_18 (by decide) ?_
    exact hret 0 (u, vp_updL g (0 : Int32).toNatClampNeg R.toInt64) _ _ _ _ d_ML_code_19 ⟨hK9.symm, fun _ => rfl⟩ hP hD hS
  · have h9 := hw.1
    have hK9 : K = k := hKR.1.symm.trans (congrArg (fun z => z.1) h9)
    have hk1 : k = 1 := by rcases hK01 with h | h; exact absurd (hK9.symm.trans h) hk0; exact hK9.symm.trans h
    subst hk1
    rw [gE1] at hcl
    obtain ⟨cC, kC, hfc, hkc, -⟩ := Cond.instantiable_spec (hts _ k_542)
    cases hcl.symm.trans hfc
    refine g_catch (pre := []) (suf := [⟨0, 9, 15, 24⟩]) (x := ⟨0, 9, 12, 13⟩) X rfl hown htb (fun y hy => absurd hy (List.not_mem_nil)) rfl (by decide) (hts _ k_536) hcl (va_asg _ _) (by rw [hT]; exact hce) hcv ⟨kC, hkc⟩ ?_
    rw [hT]
    refine W.eq (g2 := F0 m 12 ls [.ref x]) rfl ?_
    refine lv_astore_n (lv' := [(3, .ref x), (0, .ref a0), (1, .int p1), (2, .ref aO)]) hx hb d_ML_code_12 rfl hl (by decide) rfl (fun ls hl => ?_)
    refine lv_iconst (v := 1) hx hb d_ML_code_13 (by decide) ?_
    exact hret 1 (u, g) _ _ _ _ d_ML_code_14 ⟨hK9.symm, fun h => absurd (hK9.symm.trans h) (by decide)⟩ hP hD hS
