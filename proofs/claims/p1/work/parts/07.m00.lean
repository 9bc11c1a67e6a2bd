def m_MC_feed (f1 : Nat → Int32) (p1 : Int32) (p2 : Int32) (p3 : Int32) (p4 : Int32) (p5 : Int32) : (Nat → Int32) :=
  (upd (upd (upd (upd (upd f1 (0 : Int32).toNatClampNeg p1) (1 : Int32).toNatClampNeg p2) (2 : Int32).toNatClampNeg p3) (3 : Int32).toNatClampNeg p4) (4 : Int32).toNatClampNeg p5)
def rm_MC_feed : Room := { frames := 0, cells := 0, slots := 0, locals := 0 }
set_option maxHeartbeats 4000000 in
set_option maxRecDepth 100000 in
theorem c_MC_feed (l : Launch) (D : va_G) (Z : gZT) (kI : ClassId) (a0 : Nat) (x0_text : Nat) (x0_uncoder : Nat) (x0_coder : Nat) (x0_reader : Nat) (x0_writer : Nat) (x0_word : Nat) (x0_tape : Nat) (x0_spare : Nat) (a1 : Nat) (sz : Nat) (f1 : Nat → Int32) (p1 : Int32) (p2 : Int32) (p3 : Int32) (p4 : Int32) (p5 : Int32) : gMv l y_MC_feed w_MC_feed rm_MC_feed D Z kI [.ref a0, .int p1, .int p2, .int p3, .int p4, .int p5] sz [(a0, .inr (8, [.ref a1, .ref x0_text, .ref x0_uncoder, .ref x0_coder, .ref x0_reader, .ref x0_writer, .ref x0_word, .ref x0_tape, .ref x0_spare])), (a1, .inl (kI, 5, .inl f1))] (fun (u : (Nat → Int32)) => m_MC_feed f1 p1 p2 p3 p4 p5 = u) (fun (u : (Nat → Int32)) => ([(a0, .inr (8, [.ref a1, .ref x0_text, .ref x0_uncoder, .ref x0_coder, .ref x0_reader, .ref x0_writer, .ref x0_word, .ref x0_tape, .ref x0_spare])), (a1, .inl (kI, 5, .inl u))] : va_W)) := by
  refine g_ofv (cc := b_MC_feed) (maxL := 6) (by decide) rfl (Nat.le_of_ble_eq_true rfl) ?_
  intro p e s m below meth c A Q H ls hx hb hml hown hts hA hK hZ hP hD hS hl hret
  have hown : s.vm.findClass "MailCharacters" = some m.cls := hown
  have hl : lv_has ls 6 [(0, .ref a0), (1, .int p1), (2, .int p2), (3, .int p3), (4, .int p4), (5, .int p5)] := hl
  obtain ⟨RES, hRES⟩ : ∃ z, z = m_MC_feed f1 p1 p2 p3 p4 p5 := ⟨_, rfl⟩
  have hF := hRES
  rw [m_MC_feed] at hF
  refine lv_aload_n hx hb d_MC_feed_0 rfl (lv_at hl 0 rfl) ?_
  refine va_get (D := D) (ci := 8) (v := .ref a1) (C := "MailCharacters") (T := F_MC) (N := 9) hx hb hts i_MC hown hK hP 0 rfl rfl 0 (by decide) (hts _ k_236) (fun _ h9 => h9) rfl d_MC_feed_1 ?_
  refine lv_iconst (v := 0) hx hb d_MC_feed_4 (by decide) ?_
  refine lv_iload_n hx hb d_MC_feed_5 rfl (lv_at hl 1 rfl) ?_
  refine va_iast hx hb hK hP hD hS 1 0 rfl rfl (by unfold vp_in; decide) d_MC_feed_6 (fun H locs hP hD hS => ?_)
  have hP : va_P D vwCl [(a0, .inr (8, [.ref a1, .ref x0_text, .ref x0_uncoder, .ref x0_coder, .ref x0_reader, .ref x0_writer, .ref x0_word, .ref x0_tape, .ref x0_spare])), (a1, .inl (kI, 5, .inl (upd f1 (0 : Int32).toNatClampNeg p1)))] H := hP
  have hD : va_D A [(a0, .inr (8, [.ref a1, .ref x0_text, .ref x0_uncoder, .ref x0_coder, .ref x0_reader, .ref x0_writer, .ref x0_word, .ref x0_tape, .ref x0_spare])), (a1, .inl (kI, 5, .inl (upd f1 (0 : Int32).toNatClampNeg p1)))] := hD
  refine lv_aload_n hx hb d_MC_feed_7 rfl (lv_at hl 0 rfl) ?_
  refine va_get (D := D) (ci := 8) (v := .ref a1) (C := "MailCharacters") (T := F_MC) (N := 9) hx hb hts i_MC hown hK hP 0 rfl rfl 0 (by decide) (hts _ k_236) (fun _ h9 => h9) rfl d_MC_feed_8 ?_
  refine lv_iconst (v := 1) hx hb d_MC_feed_11 (by decide) ?_
  refine lv_iload_n hx hb d_MC_feed_12 rfl (lv_at hl 2 rfl) ?_
  refine va_iast hx hb hK hP hD hS 1 0 rfl rfl (by unfold vp_in; decide) d_MC_feed_13 (fun H locs hP hD hS => ?_)
  have hP : va_P D vwCl [(a0, .inr (8, [.ref a1, .ref x0_text, .ref x0_uncoder, .ref x0_coder, .ref x0_reader, .ref x0_writer, .ref x0_word, .ref x0_tape, .ref x0_spare])), (a1, .inl (kI, 5, .inl (upd (upd f1 (0 : Int32).toNatClampNeg p1) (1 : Int32).toNatClampNeg p2)))] H := hP
  have hD : va_D A [(a0, .inr (8, [.ref a1, .ref x0_text, .ref x0_uncoder, .ref x0_coder, .ref x0_reader, .ref x0_writer, .ref x0_word, .ref x0_tape, .ref x0_spare])), (a1, .inl (kI, 5, .inl (upd (upd f1 (0 : Int32).toNatClampNeg p1) (1 : Int32).toNatClampNeg p2)))] := hD
  refine lv_aload_n hx hb d_MC_feed_14 rfl (lv_at hl 0 rfl) ?_
  refine va_get (D := D) (ci := 8) (v := .ref a1) (C := "MailCharacters") (T := F_MC) (N := 9) hx hb hts i_MC hown hK hP 0 rfl rfl 0 (by decide) (hts _ k_236) (fun _ h9 => h9) rfl d_MC_feed_15 ?_
  refine lv_iconst (v := 2) hx hb d_MC_feed_18 (by decide) ?_
  refine lv_iload_n hx hb d_MC_feed_19 rfl (lv_at hl 3 rfl) ?_
  refine va_iast hx hb hK hP hD hS 1 0 rfl rfl (by unfold vp_in; decide) d_MC_feed_20 (fun H locs hP hD hS => ?_)
  have hP : va_P D vwCl [(a0, .inr (8, [.ref a1, .ref x0_text, .ref x0_uncoder, .ref x0_coder, .ref x0_reader, .ref x0_writer, .ref x0_word, .ref x0_tape, .ref x0_spare])), (a1, .inl (kI, 5, .inl (upd (upd (upd f1 (0 : Int32).toNatClampNeg p1) (1 : Int32).toNatClampNeg p2) (2 : Int32).toNatClampNeg p3)))] H := hP
  have hD : va_D A [(a0, .inr (8, [.ref a1, .ref x0_text, .ref x0_uncoder, .ref x0_coder, .ref x0_reader, .ref x0_writer, .ref x0_word, .ref x0_tape, .ref x0_spare])), (a1, .inl (kI, 5, .inl (upd (upd (upd f1 (0 : Int32).toNatClampNeg p1) (1 : Int32).toNatClampNeg p2) (2 : Int32).toNatClampNeg p3)))] := hD
  refine lv_aload_n hx hb d_MC_feed_21 rfl (lv_at hl 0 rfl) ?_
  refine va_get (D := D) (ci := 8) (v := .ref a1) (C := "MailCharacters") (T := F_MC) (N := 9) hx hb hts i_MC hown hK hP 0 rfl rfl 0 (by decide) (hts _ k_236) (fun _ h9 => h9) rfl d_MC_feed_22 ?_
  refine lv_iconst (v := 3) hx hb d_MC_feed_25 (by decide) ?_
  refine lv_iload hx hb d_MC_feed_26 (lv_at hl 4 rfl) ?_
  refine va_iast hx hb hK hP hD hS 1 0 rfl rfl (by unfold vp_in; decide) d_MC_feed_28 (fun H locs hP hD hS => ?_)
  have hP : va_P D vwCl [(a0, .inr (8, [.ref a1, .ref x0_text, .ref x0_uncoder, .ref x0_coder, .ref x0_reader, .ref x0_writer, .ref x0_word, .ref x0_tape, .ref x0_spare])), (a1, .inl (kI, 5, .inl (upd (upd (upd (upd f1 (0 : Int32).toNatClampNeg p1) (1 : Int32).toNatClampNeg p2) (2 : Int32).toNatClampNeg p3) (3 : Int32).toNatClampNeg p4)))] H := hP
  have hD : va_D A [(a0, .inr (8, [.ref a1, .ref x0_text, .ref x0_uncoder, .ref x0_coder, .ref x0_reader, .ref x0_writer, .ref x0_word, .ref x0_tape, .ref x0_spare])), (a1, .inl (kI, 5, .inl (upd (upd (upd (upd f1 (0 : Int32).toNatClampNeg p1) (1 : Int32).toNatClampNeg p2) (2 : Int32).toNatClampNeg p3) (3 : Int32).toNatClampNeg p4)))] := hD
  refine lv_aload_n hx hb d_MC_feed_29 rfl (lv_at hl 0 rfl) ?_
  refine va_get (D := D) (ci := 8) (v := .ref a1) (C := "MailCharacters") (T := F_MC) (N := 9) hx hb hts i_MC hown hK hP 0 rfl rfl 0 (by decide) (hts _ k_236) (fun _ h9 => h9) rfl d_MC_feed_30 ?_
  refine lv_iconst (v := 4) hx hb d_MC_feed_33 (by decide) ?_
  refine lv_iload hx hb d_MC_feed_34 (lv_at hl 5 rfl) ?_
  refine va_iast hx hb hK hP hD hS 1 0 rfl rfl (by unfold vp_in; decide) d_MC_feed_36 (fun H locs hP hD hS => ?_)
  have hP : va_P D vwCl [(a0, .inr (8, [.ref a1, .ref x0_text, .ref x0_uncoder, .ref x0_coder, .ref x0_reader, .ref x0_writer, .ref x0_word, .ref x0_tape, .ref x0_spare])), (a1, .inl (kI, 5, .inl (upd (upd (upd (upd (upd f1 (0 : Int32).toNatClampNeg p1) (1 : Int32).toNatClampNeg p2) (2 : Int32).toNatClampNeg p3) (3 : Int32).toNatClampNeg p4) (4 : Int32).toNatClampNeg p5)))] H := hP
  have hD : va_D A [(a0, .inr (8, [.ref a1, .ref x0_text, .ref x0_uncoder, .ref x0_coder, .ref x0_reader, .ref x0_writer, .ref x0_word, .ref x0_tape, .ref x0_spare])), (a1, .inl (kI, 5, .inl (upd (upd (upd (upd (upd f1 (0 : Int32).toNatClampNeg p1) (1 : Int32).toNatClampNeg p2) (2 : Int32).toNatClampNeg p3) (3 : Int32).toNatClampNeg p4) (4 : Int32).toNatClampNeg p5)))] := hD
  exact hret (upd (upd (upd (upd (upd f1 (0 : Int32).toNatClampNeg p1) (1 : Int32).toNatClampNeg p2) (2 : Int32).toNatClampNeg p3) (3 : Int32).toNatClampNeg p4) (4 : Int32).toNatClampNeg p5) _ _ _ _ d_MC_feed_37 (hRES.symm.trans hF) hP hD hS
theorem cw_MC_feed {R : Room} {s : State} {args : Array Value} {own : String} {idx : Nat} (hts : ∀ w ∈ gW, w.before args s = true) (hl : Cond.methodLink own idx y_MC_feed ∈ gW) (hR : rm_MC_feed.frames + 1 ≤ R.frames ∧ 8 + (6 + 11) + rm_MC_feed.locals ≤ R.locals) : CallW R s args own "MailCharacters" idx y_MC_feed b_MC_feed 6 none w_MC_feed rm_MC_feed 0 0 5 := cwV 5 hts (gW_V hl k_265 k_266 k_67 k_267) rfl rfl rfl (by decide +kernel) hR
def m_MC_end_l25 (n2 : Nat) : Nat → Int32 → Int32 → (Nat → Int32) → List Int32 → Int32 → Int32 × (Nat → Int32) × List Int32 × Int32
  | 0, _, _, f1, l2, o2 => (0, f1, l2, o2)
  | nf25 + 1, i1, i2, f1, l2, o2 =>
    if i1 ≤ i2 then
      ((m_Row_size l2), (m_MC_feed f1 0 0 0 0 0), l2, o2)
    else
      match (m_Row_put n2 l2 o2 (((f1 (i2 / 4).toNatClampNeg) >>> ((24 - ((i2 - i2 / 4 * 4) * 8)) &&& 31)) &&& 255)) with
      | (l2_4, o2_4) =>
        m_MC_end_l25 n2 nf25 i1 (i2 + 1) f1 l2_4 o2_4
def m_MC_end (n2 : Nat) (f1 : Nat → Int32) (l2 : List Int32) (o2 : Int32) (p1 : Int32) : Int32 × (Nat → Int32) × List Int32 × Int32 :=
  if p1 < 0 then
    ((-1), f1, l2, o2)
  else
    if 20 < p1 then
      ((-1), f1, l2, o2)
    else
      if p1 ≤ (m_Row_room n2 l2) then
        m_MC_end_l25 n2 ((p1.toInt - (0 : Int32).toInt).toNat + 1) p1 0 f1 l2 o2
      else
        ((-1), f1, l2, o2)
def rm_MC_end : Room := { frames := 1, cells := 0, slots := 0, locals := 25 }
set_option maxHeartbeats 4000000 in
set_option maxRecDepth 100000 in
theorem c_MC_end (l : Launch) (D : va_G) (Z : gZT) (kI : ClassId) (a0 : Nat) (x0_text : Nat) (x0_uncoder : Nat) (x0_coder : Nat) (x0_reader : Nat) (x0_writer : Nat) (x0_word : Nat) (x0_spare : Nat) (a1 : Nat) (a2 : Nat) (b2 : Nat) (n2 : Nat) (sz : Nat) (f1 : Nat → Int32) (f2 : Nat → Int32) (l2 : List Int32) (o2 : Int32) (p1 : Int32) (hr2 : g_rw n2 f2 l2) : gMi l y_MC_end w_MC_end rm_MC_end D Z kI [.ref a0, .int p1] sz [(a0, .inr (8, [.ref a1, .ref x0_text, .ref x0_uncoder, .ref x0_coder, .ref x0_reader, .ref x0_writer, .ref x0_word, .ref a2, .ref x0_spare])), (a1, .inl (kI, 5, .inl f1)), (a2, .inr (4, [.ref b2, .int (nI l2.length), .int o2])), (b2, .inl (kI, n2, .inl f2))] (fun (r : Int32) (u : (Nat → Int32) × (Nat → Int32) × List Int32 × Int32) => m_MC_end n2 f1 l2 o2 p1 = (r, u.1, u.2.2.1, u.2.2.2) ∧ g_rw n2 u.2.1 u.2.2.1) (fun (u : (Nat → Int32) × (Nat → Int32) × List Int32 × Int32) => ([(a0, .inr (8, [.ref a1, .ref x0_text, .ref x0_uncoder, .ref x0_coder, .ref x0_reader, .ref x0_writer, .ref x0_word, .ref a2, .ref x0_spare])), (a1, .inl (kI, 5, .inl u.1)), (a2, .inr (4, [.ref b2, .int (nI u.2.2.1.length), .int u.2.2.2])), (b2, .inl (kI, n2, .inl u.2.1))] : va_W)) := by
  refine g_ofi (cc := b_MC_end) (maxL := 3) (ty := .int) (by decide) rfl (Nat.le_of_ble_eq_true rfl) ?_
  intro p e s m below meth c A Q H ls hx hb hml hown hts hA hK hZ hP hD hS hl hret
  have hown : s.vm.findClass "MailCharacters" = some m.cls := hown
  have hl : lv_has ls 3 [(0, .ref a0), (1, .int p1)] := hl
  obtain ⟨RES, hRES⟩ : ∃ z, z = m_MC_end n2 f1 l2 o2 p1 := ⟨_, rfl⟩
  have lp25 : ∀ (nf25 : Nat) (i1 : Int32) (i2 : Int32) (f1 : Nat → Int32) (f2 : Nat → Int32) (l2 : List Int32) (o2 : Int32) (hr2 : g_rw n2 f2 l2) (H : Heap) (locs : List Loc) (ls : Array Slot), ¬ i2 < 0 → ¬ 20 < i1 → (i1.toInt - i2.toInt).toNat < nf25 → RES = m_MC_end_l25 n2 nf25 i1 i2 f1 l2 o2 → va_P D vwCl [(a0, .inr (8, [.ref a1, .ref x0_text, .ref x0_uncoder, .ref x0_coder, .ref x0_reader, .ref x0_writer, .ref x0_word, .ref a2, .ref x0_spare])), (a1, .inl (kI, 5, .inl f1)), (a2, .inr (4, [.ref b2, .int (nI l2.length), .int o2])), (b2, .inl (kI, n2, .inl f2))] H → va_D A [(a0, .inr (8, [.ref a1, .ref x0_text, .ref x0_uncoder, .ref x0_coder, .ref x0_reader, .ref x0_writer, .ref x0_word, .ref a2, .ref x0_spare])), (a1, .inl (kI, 5, .inl f1)), (a2, .inr (4, [.ref b2, .int (nI l2.length), .int o2])), (b2, .inl (kI, n2, .inl f2))] → va_S A s.heap H locs → lv_has ls 3 [(0, .ref a0), (1, .int i1), (2, .int i2)] → W p l e rm_MC_end s m ([.ref a0, .int p1] : List Value).toArray below meth c H locs 0 0 Q (F0 m 25 ls []) := by
    intro nf25
    induction nf25 with
    | zero => intro i1 i2 f1 f2 l2 o2 hr2 H locs ls hi25_0 hi25_1 hn25; exact absurd hn25 (Nat.not_lt_zero _)
    | succ nf25 ih25 =>
      intro i1 i2 f1 f2 l2 o2 hr2 H locs ls hi25_0 hi25_1 hn25 hF hP hD hS hl
      rw [m_MC_end_l25] at hF
      refine lv_iload_n hx hb d_MC_end_25 rfl (lv_at hl 2 rfl) ?_
      refine lv_iload_n hx hb d_MC_end_26 rfl (lv_at hl 1 rfl) ?_
      refine lv_icmp_ge (tgt := 65) hx hb d_MC_end_27 (by decide) (fun c_1 => ?_) (fun c_1 => ?_)
      · rw [if_pos c_1] at hF
        refine lv_aload_n hx hb d_MC_end_65 rfl (lv_at hl 0 rfl) ?_
        refine lv_iconst (v := 0) hx hb d_MC_end_66 (by decide) ?_
        refine lv_iconst (v := 0) hx hb d_MC_end_67 (by decide) ?_
        refine lv_iconst (v := 0) hx hb d_MC_end_68 (by decide) ?_
        refine lv_iconst (v := 0) hx hb d_MC_end_69 (by decide) ?_
        refine lv_iconst (v := 0) hx hb d_MC_end_70 (by decide) ?_
        refine g_Vv (As := [.int 0, .int 0, .int 0, .int 0, .int 0]) (rest := []) (wr := [(a2, .inr (4, [.ref b2, .int (nI l2.length), .int o2])), (b2, .inl (kI, n2, .inl f2))]) ⟨hx, hb, hml, hown, hts⟩ (c_MC_feed l D Z kI a0 x0_text x0_uncoder x0_coder x0_reader x0_writer x0_word a2 x0_spare a1 H.size f1 0 0 0 0 0) (cw_MC_feed hts k_280 ⟨Nat.le_of_ble_eq_true rfl, Nat.le_of_ble_eq_true rfl⟩) hK hZ hP hD hS hA [0, 1] [2, 3] (g_recv hK hP (ci := 8) (q0 := 0) rfl rfl) rfl rfl (by decide) (by decide) (by decide) rfl hl.1 rfl (Nat.le_of_ble_eq_true rfl) d_MC_end_71 ⟨Nat.zero_le _, Nat.zero_le _⟩ (fun f1_2 H locs hw hP hD hS => ?_)
        have e_2 := hw
        subst e_2
        have hP : va_P D vwCl [(a2, .inr (4, [.ref b2, .int (nI l2.length), .int o2])), (b2, .inl (kI, n2, .inl f2)), (a0, .inr (8, [.ref a1, .ref x0_text, .ref x0_uncoder, .ref x0_coder, .ref x0_reader, .ref x0_writer, .ref x0_word, .ref a2, .ref x0_spare])), (a1, .inl (kI, 5, .inl (m_MC_feed f1 0 0 0 0 0)))] H := hP
        have hD : va_D A [(a2, .inr (4, [.ref b2, .int (nI l2.length), .int o2])), (b2, .inl (kI, n2, .inl f2)), (a0, .inr (8, [.ref a1, .ref x0_text, .ref x0_uncoder, .ref x0_coder, .ref x0_reader, .ref x0_writer, .ref x0_word, .ref a2, .ref x0_spare])), (a1, .inl (kI, 5, .inl (m_MC_feed f1 0 0 0 0 0)))] := hD
        refine lv_aload_n hx hb d_MC_end_74 rfl (lv_at hl 0 rfl) ?_
        refine va_get (D := D) (ci := 8) (v := .ref a2) (C := "MailCharacters") (T := F_MC) (N := 9) hx hb hts i_MC hown hK hP 2 rfl rfl 7 (by decide) (hts _ k_243) (fun _ h9 => h9) rfl d_MC_end_75 ?_
        refine g_Vi (As := []) (rest := []) (wr := [(a0, .inr (8, [.ref a1, .ref x0_text, .ref x0_uncoder, .ref x0_coder, .ref x0_reader, .ref x0_writer, .ref x0_word, .ref a2, .ref x0_spare])), (a1, .inl (kI, 5, .inl (m_MC_feed f1 0 0 0 0 0)))]) ⟨hx, hb, hml, hown, hts⟩ (c_Row_size l D Z kI a2 b2 n2 H.size f2 l2 o2 hr2) (cw_Row_size hts k_281 ⟨Nat.le_of_ble_eq_true rfl, Nat.le_of_ble_eq_true rfl⟩) hK hZ hP hD hS hA [0, 1] [2, 3] (g_recv hK hP (ci := 4) (q0 := 0) rfl rfl) rfl rfl (by decide) (by decide) (by decide) rfl hl.1 rfl (Nat.le_of_ble_eq_true rfl) d_MC_end_78 ⟨Nat.zero_le _, Nat.zero_le _⟩ (fun r_3 u_3 H locs hw hP hD hS => ?_)
        have e_3 := hw
        subst e_3
        have hP : va_P D vwCl [(a0, .inr (8, [.ref a1, .ref x0_text, .ref x0_uncoder, .ref x0_coder, .ref x0_reader, .ref x0_writer, .ref x0_word, .ref a2, .ref x0_spare])), (a1, .inl (kI, 5, .inl (m_MC_feed f1 0 0 0 0 0))), (a2, .inr (4, [.ref b2, .int (nI l2.length), .int o2])), (b2, .inl (kI, n2, .inl f2))] H := hP
        have hD : va_D A [(a0, .inr (8, [.ref a1, .ref x0_text, .ref x0_uncoder, .ref x0_coder, .ref x0_reader, .ref x0_writer, .ref x0_word, .ref a2, .ref x0_spare])), (a1, .inl (kI, 5, .inl (m_MC_feed f1 0 0 0 0 0))), (a2, .inr (4, [.ref b2, .int (nI l2.length), .int o2])), (b2, .inl (kI, n2, .inl f2))] := hD
        exact hret (m_Row_size l2) ((m_MC_feed f1 0 0 0 0 0), f2, l2, o2) _ _ _ _ d_MC_end_81 rfl (⟨hRES.symm.trans hF, hr2⟩) hP hD hS
      · rw [if_neg c_1] at hF
        refine lv_aload_n hx hb d_MC_end_30 rfl (lv_at hl 0 rfl) ?_
        refine va_get (D := D) (ci := 8) (v := .ref a2) (C := "MailCharacters") (T := F_MC) (N := 9) hx hb hts i_MC hown hK hP 0 rfl rfl 7 (by decide) (hts _ k_243) (fun _ h9 => h9) rfl d_MC_end_31 ?_
        refine lv_aload_n hx hb d_MC_end_34 rfl (lv_at hl 0 rfl) ?_
        refine va_get (D := D) (ci := 8) (v := .ref a1) (C := "MailCharacters") (T := F_MC) (N := 9) hx hb hts i_MC hown hK hP 0 rfl rfl 0 (by decide) (hts _ k_236) (fun _ h9 => h9) rfl d_MC_end_35 ?_
        refine lv_iload_n hx hb d_MC_end_38 rfl (lv_at hl 2 rfl) ?_
        refine lv_iconst (v := 4) hx hb d_MC_end_39 (by decide) ?_
        refine lv_idiv hx hb d_MC_end_40 (by decide) ?_
        refine va_iald hx hb hK hP 1 0 rfl rfl (g_end hi25_0 c_1 hi25_1) d_MC_end_41 ?_
        refine lv_bipush (v := 24) hx hb d_MC_end_42 (by decide) ?_
        refine lv_iload_n hx hb d_MC_end_44 rfl (lv_at hl 2 rfl) ?_
        refine lv_iconst (v := 4) hx hb d_MC_end_45 (by decide) ?_
        refine lv_irem hx hb d_MC_end_46 (by decide) ?_
        refine lv_bipush (v := 8) hx hb d_MC_end_47 (by decide) ?_
        refine lv_imul hx hb d_MC_end_49 ?_
        refine lv_isub hx hb d_MC_end_50 ?_
        refine lv_ishr hx hb d_MC_end_51 ?_
        refine lv_sipush (v := 255) hx hb d_MC_end_52 (by decide) ?_
        refine lv_iand hx hb d_MC_end_55 ?_
        refine g_Vv (As := [.int (((f1 (i2 / 4).toNatClampNeg) >>> ((24 - ((i2 - i2 / 4 * 4) * 8)) &&& 31)) &&& 255)]) (rest := []) (wr := [(a0, .inr (8, [.ref a1, .ref x0_text, .ref x0_uncoder, .ref x0_coder, .ref x0_reader, .ref x0_writer, .ref x0_word, .ref a2, .ref x0_spare])), (a1, .inl (kI, 5, .inl f1))]) ⟨hx, hb, hml, hown, hts⟩ (c_Row_put l D Z kI a2 b2 n2 H.size f2 l2 o2 (((f1 (i2 / 4).toNatClampNeg) >>> ((24 - ((i2 - i2 / 4 * 4) * 8)) &&& 31)) &&& 255) hr2) (cw_Row_put hts k_276 ⟨Nat.le_of_ble_eq_true rfl, Nat.le_of_ble_eq_true rfl⟩) hK hZ hP hD hS hA [2, 3] [0, 1] (g_recv hK hP (ci := 4) (q0 := 2) rfl rfl) rfl rfl (by decide) (by decide) (by decide) rfl hl.1 rfl (Nat.le_of_ble_eq_true rfl) d_MC_end_56 ⟨Nat.zero_le _, Nat.zero_le _⟩ (fun u_4 H locs hw hP hD hS => ?_)
        obtain ⟨f2_4, l2_4, o2_4⟩ := u_4
        have e_4 := hw.1
        have hr2_4 := hw.2
        have hP : va_P D vwCl [(a0, .inr (8, [.ref a1, .ref x0_text, .ref x0_uncoder, .ref x0_coder, .ref x0_reader, .ref x0_writer, .ref x0_word, .ref a2, .ref x0_spare])), (a1, .inl (kI, 5, .inl f1)), (a2, .inr (4, [.ref b2, .int (nI l2_4.length), .int o2_4])), (b2, .inl (kI, n2, .inl f2_4))] H := hP
        have hD : va_D A [(a0, .inr (8, [.ref a1, .ref x0_text, .ref x0_uncoder, .ref x0_coder, .ref x0_reader, .ref x0_writer, .ref x0_word, .ref a2, .ref x0_spare])), (a1, .inl (kI, 5, .inl f1)), (a2, .inr (4, [.ref b2, .int (nI l2_4.length), .int o2_4])), (b2, .inl (kI, n2, .inl f2_4))] := hD
        rw [e_4] at hF; dsimp only at hF
        refine lv_iinc (v := (i2 + 1)) (lv' := [(2, .int (i2 + 1)), (0, .ref a0), (1, .int i1)]) hx hb d_MC_end_59 hl (k := 2) rfl rfl (by decide) rfl (fun ls hl => ?_)
        refine lv_goto (tgt := 25) hx hb d_MC_end_62 (by decide) ?_
        exact ih25 i1 (i2 + 1) f1 f2_4 l2_4 o2_4 hr2_4 _ _ _ (g_nn c_1 hi25_0) hi25_1 (Nat.lt_of_lt_of_le (g_dec1 c_1) (Nat.le_of_lt_succ hn25)) hF hP hD hS (lv_sub hl [1, 2, 0] rfl)
  have hF := hRES
  rw [m_MC_end] at hF
  refine lv_iload_n hx hb d_MC_end_0 rfl (lv_at hl 1 rfl) ?_
  refine lv_if_lt (tgt := 21) hx hb d_MC_end_1 (by decide) (fun c_5 => ?_) (fun c_5 => ?_)
  · rw [if_pos c_5] at hF
    refine lv_iconst (v := (-1)) hx hb d_MC_end_21 (by decide) ?_
    exact hret (-1) (f1, f2, l2, o2) _ _ _ _ d_MC_end_22 rfl (⟨hRES.symm.trans hF, hr2⟩) hP hD hS
  · rw [if_neg c_5] at hF
    refine lv_iload_n hx hb d_MC_end_4 rfl (lv_at hl 1 rfl) ?_
    refine lv_bipush (v := 20) hx hb d_MC_end_5 (by decide) ?_
    refine lv_icmp_gt (tgt := 21) hx hb d_MC_end_7 (by decide) (fun c_6 => ?_) (fun c_6 => ?_)
    · rw [if_pos c_6] at hF
      refine lv_iconst (v := (-1)) hx hb d_MC_end_21 (by decide) ?_
      exact hret (-1) (f1, f2, l2, o2) _ _ _ _ d_MC_end_22 rfl (⟨hRES.symm.trans hF, hr2⟩) hP hD hS
    · rw [if_neg c_6] at hF
      refine lv_iload_n hx hb d_MC_end_10 rfl (lv_at hl 1 rfl) ?_
      refine lv_aload_n hx hb d_MC_end_11 rfl (lv_at hl 0 rfl) ?_
      refine va_get (D := D) (ci := 8) (v := .ref a2) (C := "MailCharacters") (T := F_MC) (N := 9) hx hb hts i_MC hown hK hP 0 rfl rfl 7 (by decide) (hts _ k_243) (fun _ h9 => h9) rfl d_MC_end_12 ?_
      refine g_Vi (As := []) (rest := [.int p1]) (wr := [(a0, .inr (8, [.ref a1, .ref x0_text, .ref x0_uncoder, .ref x0_coder, .ref x0_reader, .ref x0_writer, .ref x0_word, .ref a2, .ref x0_spare])), (a1, .inl (kI, 5, .inl f1))]) ⟨hx, hb, hml, hown, hts⟩ (c_Row_room l D Z kI a2 b2 n2 H.size f2 l2 o2 hr2) (cw_Row_room hts k_272 ⟨Nat.le_of_ble_eq_true rfl, Nat.le_of_ble_eq_true rfl⟩) hK hZ hP hD hS hA [2, 3] [0, 1] (g_recv hK hP (ci := 4) (q0 := 2) rfl rfl) rfl rfl (by decide) (by decide) (by decide) rfl hl.1 rfl (Nat.le_of_ble_eq_true rfl) d_MC_end_15 ⟨Nat.zero_le _, Nat.zero_le _⟩ (fun r_7 u_7 H locs hw hP hD hS => ?_)
      have e_7 := hw
      subst e_7
      have hP : va_P D vwCl [(a0, .inr (8, [.ref a1, .ref x0_text, .ref x0_uncoder, .ref x0_coder, .ref x0_reader, .ref x0_writer, .ref x0_word, .ref a2, .ref x0_spare])), (a1, .inl (kI, 5, .inl f1)), (a2, .inr (4, [.ref b2, .int (nI l2.length), .int o2])), (b2, .inl (kI, n2, .inl f2))] H := hP
      have hD : va_D A [(a0, .inr (8, [.ref a1, .ref x0_text, .ref x0_uncoder, .ref x0_coder, .ref x0_reader, .ref x0_writer, .ref x0_word, .ref a2, .ref x0_spare])), (a1, .inl (kI, 5, .inl f1)), (a2, .inr (4, [.ref b2, .int (nI l2.length), .int o2])), (b2, .inl (kI, n2, .inl f2))] := hD
      refine lv_icmp_le (tgt := 23) hx hb d_MC_end_18 (by decide) (fun c_8 => ?_) (fun c_8 => ?_)
      · rw [if_pos c_8] at hF
        refine lv_iconst (v := 0) hx hb d_MC_end_23 (by decide) ?_
        refine lv_istore_n (lv' := [(2, .int 0), (0, .ref a0), (1, .int p1)]) hx hb d_MC_end_24 rfl hl (by decide) rfl (fun ls hl => ?_)
        exact lp25 ((p1.toInt - (0 : Int32).toInt).toNat + 1) p1 0 f1 f2 l2 o2 hr2 _ _ _ (by decide) c_6 (Nat.lt_succ_self _) hF hP hD hS (lv_sub hl [1, 2, 0] rfl)
      · rw [if_neg c_8] at hF
        refine lv_iconst (v := (-1)) hx hb d_MC_end_21 (by decide) ?_
        exact hret (-1) (f1, f2, l2, o2) _ _ _ _ d_MC_end_22 rfl (⟨hRES.symm.trans hF, hr2⟩) hP hD hS
theorem cw_MC_end {R : Room} {s : State} {args : Array Value} {own : String} {idx : Nat} (hts : ∀ w ∈ gW, w.before args s = true) (hl : Cond.methodLink own idx y_MC_end ∈ gW) (hR : rm_MC_end.frames + 1 ≤ R.frames ∧ 8 + (3 + 11) + rm_MC_end.locals ≤ R.locals) : CallW R s args own "MailCharacters" idx y_MC_end b_MC_end 3 (some .int) w_MC_end rm_MC_end 0 0 1 := cwV 1 hts (gW_V hl k_269 k_270 k_67 k_271) rfl rfl rfl (by decide +kernel) hR
def m_Names_namesOf (p0 : Int32) : Nat :=
  if p0 = 0 then
    5
  else
    if p0 = 1 then
      6
    else
      if p0 = 2 then
        7
      else
        if p0 = 3 then
          8
        else
          if p0 = 4 then
            9
          else
            if p0 = 5 then
              10
            else
              if p0 = 6 then
                11
              else
                if p0 = 7 then
                  12
                else
                  if p0 = 8 then
                    13
                  else
                    if p0 = 9 then
                      14
                    else
                      15
def rm_Names_namesOf : Room := { frames := 0, cells := 0, slots := 0, locals := 0 }
set_option maxHeartbeats 4000000 in
set_option maxRecDepth 100000 in
theorem c_Names_namesOf (l : Launch) (D : va_G) (Z : gZT) (kI : ClassId) (sz : Nat) (p0 : Int32) : gMr l y_Names_namesOf w_Names_namesOf rm_Names_namesOf D Z kI [.int p0] sz [] (fun (r : Nat) => m_Names_namesOf p0 = r ∧ r < gnS) ([] : va_W) := by
  refine g_ofr (cc := b_Names_namesOf) (maxL := 1) (by decide) rfl (Nat.le_of_ble_eq_true rfl) ?_
  intro p e s m below meth c A Q H ls hx hb hml hown hts hA hK hZ hP hD hS hl hret
  have hown : s.vm.findClass "MailCharacters$Names" = some m.cls := hown
  have hl : lv_has ls 1 [(0, .int p0)] := hl
  obtain ⟨RES, hRES⟩ : ∃ z, z = m_Names_namesOf p0 := ⟨_, rfl⟩
  have hF := hRES
  rw [m_Names_namesOf] at hF
  refine lv_iload_n hx hb d_Names_namesOf_0 rfl (lv_at hl 0 rfl) ?_
  by_cases c_1 : p0 = 0
  · rw [if_pos c_1] at hF
    refine lv_tableIn (off := 55) (tgt := 56) hx hb d_Names_namesOf_1 (by rw [c_1]; decide) (by rw [c_1]; decide) (by rw [c_1]; decide) (by decide) ?_
    refine va_ldcS hx hb hown (gZ_lit hZ (i := 5) (by decide)) d_Names_namesOf_56 ?_
    exact hret 5 _ _ _ _ d_Names_namesOf_58 ⟨hRES.symm.trans hF, by decide⟩ hP hD hS
  rw [if_neg c_1] at hF
  by_cases c_2 : p0 = 1
  · rw [if_pos c_2] at hF
    refine lv_tableIn (off := 58) (tgt := 59) hx hb d_Names_namesOf_1 (by rw [c_2]; decide) (by rw [c_2]; decide) (by rw [c_2]; decide) (by decide) ?_
    refine va_ldcS hx hb hown (gZ_lit hZ (i := 6) (by decide)) d_Names_namesOf_59 ?_
    exact hret 6 _ _ _ _ d_Names_namesOf_61 ⟨hRES.symm.trans hF, by decide⟩ hP hD hS
  rw [if_neg c_2] at hF
  by_cases c_3 : p0 = 2
  · rw [if_pos c_3] at hF
    refine lv_tableIn (off := 61) (tgt := 62) hx hb d_Names_namesOf_1 (by rw [c_3]; decide) (by rw [c_3]; decide) (by rw [c_3]; decide) (by decide) ?_
    refine va_ldcS hx hb hown (gZ_lit hZ (i := 7) (by decide)) d_Names_namesOf_62 ?_
    exact hret 7 _ _ _ _ d_Names_namesOf_64 ⟨hRES.symm.trans hF, by decide⟩ hP hD hS
  rw [if_neg c_3] at hF
  by_cases c_4 : p0 = 3
  · rw [if_pos c_4] at hF
    refine lv_tableIn (off := 64) (tgt := 65) hx hb d_Names_namesOf_1 (by rw [c_4]; decide) (by rw [c_4]; decide) (by rw [c_4]; decide) (by decide) ?_
    refine va_ldcS hx hb hown (gZ_lit hZ (i := 8) (by decide)) d_Names_namesOf_65 ?_
    exact hret 8 _ _ _ _ d_Names_namesOf_67 ⟨hRES.symm.trans hF, by decide⟩ hP hD hS
  rw [if_neg c_4] at hF
  by_cases c_5 : p0 = 4
  · rw [if_pos c_5] at hF
    refine lv_tableIn (off := 67) (tgt := 68) hx hb d_Names_namesOf_1 (by rw [c_5]; decide) (by rw [c_5]; decide) (by rw [c_5]; decide) (by decide) ?_
    refine va_ldcS hx hb hown (gZ_lit hZ (i := 9) (by decide)) d_Names_namesOf_68 ?_
    exact hret 9 _ _ _ _ d_Names_namesOf_70 ⟨hRES.symm.trans hF, by decide⟩ hP hD hS
  rw [if_neg c_5] at hF
  by_cases c_6 : p0 = 5
  · rw [if_pos c_6] at hF
    refine lv_tableIn (off := 70) (tgt := 71) hx hb d_Names_namesOf_1 (by rw [c_6]; decide) (by rw [c_6]; decide) (by rw [c_6]; decide) (by decide) ?_
    refine va_ldcS hx hb hown (gZ_lit hZ (i := 10) (by decide)) d_Names_namesOf_71 ?_
    exact hret 10 _ _ _ _ d_Names_namesOf_73 ⟨hRES.symm.trans hF, by decide⟩ hP hD hS
  rw [if_neg c_6] at hF
  by_cases c_7 : p0 = 6
  · rw [if_pos c_7] at hF
    refine lv_tableIn (off := 73) (tgt := 74) hx hb d_Names_namesOf_1 (by rw [c_7]; decide) (by rw [c_7]; decide) (by rw [c_7]; decide) (by decide) ?_
    refine va_ldcS hx hb hown (gZ_lit hZ (i := 11) (by decide)) d_Names_namesOf_74 ?_
    exact hret 11 _ _ _ _ d_Names_namesOf_76 ⟨hRES.symm.trans hF, by decide⟩ hP hD hS
  rw [if_neg c_7] at hF
  by_cases c_8 : p0 = 7
  · rw [if_pos c_8] at hF
    refine lv_tableIn (off := 76) (tgt := 77) hx hb d_Names_namesOf_1 (by rw [c_8]; decide) (by rw [c_8]; decide) (by rw [c_8]; decide) (by decide) ?_
    refine va_ldcS hx hb hown (gZ_lit hZ (i := 12) (by decide)) d_Names_namesOf_77 ?_
    exact hret 12 _ _ _ _ d_Names_namesOf_79 ⟨hRES.symm.trans hF, by decide⟩ hP hD hS
  rw [if_neg c_8] at hF
  by_cases c_9 : p0 = 8
  · rw [if_pos c_9] at hF
    refine lv_tableIn (off := 79) (tgt := 80) hx hb d_Names_namesOf_1 (by rw [c_9]; decide) (by rw [c_9]; decide) (by rw [c_9]; decide) (by decide) ?_
    refine va_ldcS hx hb hown (gZ_lit hZ (i := 13) (by decide)) d_Names_namesOf_80 ?_
    exact hret 13 _ _ _ _ d_Names_namesOf_82 ⟨hRES.symm.trans hF, by decide⟩ hP hD hS
  rw [if_neg c_9] at hF
  by_cases c_10 : p0 = 9
  · rw [if_pos c_10] at hF
    refine lv_tableIn (off := 82) (tgt := 83) hx hb d_Names_namesOf_1 (by rw [c_10]; decide) (by rw [c_10]; decide) (by rw [c_10]; decide) (by decide) ?_
    refine va_ldcS hx hb hown (gZ_lit hZ (i := 14) (by decide)) d_Names_namesOf_83 ?_
    exact hret 14 _ _ _ _ d_Names_namesOf_85 ⟨hRES.symm.trans hF, by decide⟩ hP hD hS
  rw [if_neg c_10] at hF
  refine lv_tableOut (tgt := 86) hx hb d_Names_namesOf_1 (by have := lv_neT c_1 (a := 0) (by decide); have := lv_neT c_2 (a := 1) (by decide); have := lv_neT c_3 (a := 2) (by decide); have := lv_neT c_4 (a := 3) (by decide); have := lv_neT c_5 (a := 4) (by decide); have := lv_neT c_6 (a := 5) (by decide); have := lv_neT c_7 (a := 6) (by decide); have := lv_neT c_8 (a := 7) (by decide); have := lv_neT c_9 (a := 8) (by decide); have := lv_neT c_10 (a := 9) (by decide); omega) (by decide) ?_
  refine va_ldcS hx hb hown (gZ_lit hZ (i := 15) (by decide)) d_Names_namesOf_86 ?_
  exact hret 15 _ _ _ _ d_Names_namesOf_88 ⟨hRES.symm.trans hF, by decide⟩ hP hD hS
theorem cw_Names_namesOf {R : Room} {s : State} {args : Array Value} {own : String} {idx : Nat} (hts : ∀ w ∈ gW, w.before args s = true) (hl : Cond.methodLink own idx y_Names_namesOf ∈ gW) (hR : rm_Names_namesOf.frames + 1 ≤ R.frames ∧ 8 + (1 + 11) + rm_Names_namesOf.locals ≤ R.locals) : CallB R s args own idx y_Names_namesOf b_Names_namesOf 1 (some (.object "java/lang/String")) w_Names_namesOf rm_Names_namesOf 0 0 1 ∧ (Cond.static y_Names_namesOf).before args s = true := va_cwS 1 hts (gW_S hl k_293 k_78 k_294) rfl rfl rfl (by decide +kernel) hR
def m_Names_small (p0 : Int32) : Int32 :=
  if p0 < 65 then
    p0
  else
    if 90 < p0 then
      p0
    else
      (p0 + 32)
def rm_Names_small : Room := { frames := 0, cells := 0, slots := 0, locals := 0 }
set_option maxHeartbeats 4000000 in
set_option maxRecDepth 100000 in
theorem c_Names_small (l : Launch) (D : va_G) (Z : gZT) (kI : ClassId) (sz : Nat) (p0 : Int32) : gMi l y_Names_small w_Names_small rm_Names_small D Z kI [.int p0] sz [] (fun (r : Int32) (_u : Unit) => m_Names_small p0 = r) (fun (_u : Unit) => ([] : va_W)) := by
  refine g_ofi (cc := b_Names_small) (maxL := 1) (ty := .int) (by decide) rfl (Nat.le_of_ble_eq_true rfl) ?_
  intro p e s m below meth c A Q H ls hx hb hml hown hts hA hK hZ hP hD hS hl hret
  have hown : s.vm.findClass "MailCharacters$Names" = some m.cls := hown
  have hl : lv_has ls 1 [(0, .int p0)] := hl
  obtain ⟨RES, hRES⟩ : ∃ z, z = m_Names_small p0 := ⟨_, rfl⟩
  have hF := hRES
  rw [m_Names_small] at hF
  refine lv_iload_n hx hb d_Names_small_0 rfl (lv_at hl 0 rfl) ?_
  refine lv_bipush (v := 65) hx hb d_Names_small_1 (by decide) ?_
  refine lv_icmp_lt (tgt := 19) hx hb d_Names_small_3 (by decide) (fun c_1 => ?_) (fun c_1 => ?_)
  · rw [if_pos c_1] at hF
    refine lv_iload_n hx hb d_Names_small_19 rfl (lv_at hl 0 rfl) ?_
    exact hret p0 () _ _ _ _ d_Names_small_20 rfl (hRES.symm.trans hF) hP hD hS
  · rw [if_neg c_1] at hF
    refine lv_iload_n hx hb d_Names_small_6 rfl (lv_at hl 0 rfl) ?_
    refine lv_bipush (v := 90) hx hb d_Names_small_7 (by decide) ?_
    refine lv_icmp_gt (tgt := 19) hx hb d_Names_small_9 (by decide) (fun c_2 => ?_) (fun c_2 => ?_)
    · rw [if_pos c_2] at hF
      refine lv_iload_n hx hb d_Names_small_19 rfl (lv_at hl 0 rfl) ?_
      exact hret p0 () _ _ _ _ d_Names_small_20 rfl (hRES.symm.trans hF) hP hD hS
    · rw [if_neg c_2] at hF
      refine lv_iload_n hx hb d_Names_small_12 rfl (lv_at hl 0 rfl) ?_
      refine lv_bipush (v := 32) hx hb d_Names_small_13 (by decide) ?_
      refine lv_iadd hx hb d_Names_small_15 ?_
      refine lv_goto (tgt := 20) hx hb d_Names_small_16 (by decide) ?_
      exact hret (p0 + 32) () _ _ _ _ d_Names_small_20 rfl (hRES.symm.trans hF) hP hD hS
theorem cw_Names_small {R : Room} {s : State} {args : Array Value} {own : String} {idx : Nat} (hts : ∀ w ∈ gW, w.before args s = true) (hl : Cond.methodLink own idx y_Names_small ∈ gW) (hR : rm_Names_small.frames + 1 ≤ R.frames ∧ 8 + (1 + 11) + rm_Names_small.locals ≤ R.locals) : CallB R s args own idx y_Names_small b_Names_small 1 (some .int) w_Names_small rm_Names_small 0 0 1 ∧ (Cond.static y_Names_small).before args s = true := va_cwS 1 hts (gW_S hl k_365 k_78 k_366) rfl rfl rfl (by decide +kernel) hR
def m_Word_endOfName_l2 : Nat → Int32 → List Int32 → Int32
  | 0, _, _ => 0
  | nf2 + 1, i2, l0 =>
    if (m_Row_size l0) ≤ i2 then
      (m_Row_size l0)
    else
      if (m_Row_get l0 i2) = 63 then
        i2
      else
        m_Word_endOfName_l2 nf2 (i2 + 1) l0
def m_Word_endOfName (l0 : List Int32) (p1 : Int32) : Int32 :=
  m_Word_endOfName_l2 (((m_Row_size l0).toInt - p1.toInt).toNat + 1) p1 l0
def rm_Word_endOfName : Room := { frames := 1, cells := 0, slots := 0, locals := 21 }
set_option maxHeartbeats 4000000 in
set_option maxRecDepth 100000 in
theorem c_Word_endOfName (l : Launch) (D : va_G) (Z : gZT) (kI : ClassId) (a0 : Nat) (b0 : Nat) (n0 : Nat) (sz : Nat) (f0 : Nat → Int32) (l0 : List Int32) (o0 : Int32) (p1 : Int32) (hr0 : g_rw n0 f0 l0) : gMi l y_Word_endOfName w_Word_endOfName rm_Word_endOfName D Z kI [.ref a0, .int p1] sz [(a0, .inr (4, [.ref b0, .int (nI l0.length), .int o0])), (b0, .inl (kI, n0, .inl f0))] (fun (r : Int32) (_u : Unit) => m_Word_endOfName l0 p1 = r) (fun (_u : Unit) => ([(a0, .inr (4, [.ref b0, .int (nI l0.length), .int o0])), (b0, .inl (kI, n0, .inl f0))] : va_W)) := by
  refine g_ofi (cc := b_Word_endOfName) (maxL := 3) (ty := .int) (by decide) rfl (Nat.le_of_ble_eq_true rfl) ?_
  intro p e s m below meth c A Q H ls hx hb hml hown hts hA hK hZ hP hD hS hl hret
  have hown : s.vm.findClass "MailCharacters$Word" = some m.cls := hown
  have hl : lv_has ls 3 [(0, .ref a0), (1, .int p1)] := hl
  obtain ⟨RES, hRES⟩ : ∃ z, z = m_Word_endOfName l0 p1 := ⟨_, rfl⟩
  have lp2 : ∀ (nf2 : Nat) (i2 : Int32) (H : Heap) (locs : List Loc) (ls : Array Slot), ((m_Row_size l0).toInt - i2.toInt).toNat < nf2 → RES = m_Word_endOfName_l2 nf2 i2 l0 → va_P D vwCl [(a0, .inr (4, [.ref b0, .int (nI l0.length), .int o0])), (b0, .inl (kI, n0, .inl f0))] H → va_D A [(a0, .inr (4, [.ref b0, .int (nI l0.length), .int o0])), (b0, .inl (kI, n0, .inl f0))] → va_S A s.heap H locs → lv_has ls 3 [(0, .ref a0), (2, .int i2)] → W p l e rm_Word_endOfName s m ([.ref a0, .int p1] : List Value).toArray below meth c H locs 0 0 Q (F0 m 2 ls []) := by
    intro nf2
    induction nf2 with
    | zero => intro i2 H locs ls hn2; exact absurd hn2 (Nat.not_lt_zero _)
    | succ nf2 ih2 =>
      intro i2 H locs ls hn2 hF hP hD hS hl
      rw [m_Word_endOfName_l2] at hF
      refine lv_iload_n hx hb d_Word_endOfName_2 rfl (lv_at hl 1 rfl) ?_
      refine lv_aload_n hx hb d_Word_endOfName_3 rfl (lv_at hl 0 rfl) ?_
      refine g_Vi (As := []) (rest := [.int i2]) (wr := []) ⟨hx, hb, hml, hown, hts⟩ (c_Row_size l D Z kI a0 b0 n0 H.size f0 l0 o0 hr0) (cw_Row_size hts k_384 ⟨Nat.le_of_ble_eq_true rfl, Nat.le_of_ble_eq_true rfl⟩) hK hZ hP hD hS hA [0, 1] [] (g_recv hK hP (ci := 4) (q0 := 0) rfl rfl) rfl rfl (by decide) (by decide) (by decide) rfl hl.1 rfl (Nat.le_of_ble_eq_true rfl) d_Word_endOfName_4 ⟨Nat.zero_le _, Nat.zero_le _⟩ (fun r_2 u_2 H locs hw hP hD hS => ?_)
      have e_2 := hw
      subst e_2
      have hP : va_P D vwCl [(a0, .inr (4, [.ref b0, .int (nI l0.length), .int o0])), (b0, .inl (kI, n0, .inl f0))] H := hP
      have hD : va_D A [(a0, .inr (4, [.ref b0, .int (nI l0.length), .int o0])), (b0, .inl (kI, n0, .inl f0))] := hD
      refine lv_icmp_ge (tgt := 28) hx hb d_Word_endOfName_7 (by decide) (fun c_3 => ?_) (fun c_3 => ?_)
      · rw [if_pos c_3] at hF
        refine lv_aload_n hx hb d_Word_endOfName_28 rfl (lv_at hl 0 rfl) ?_
        refine g_Vi (As := []) (rest := []) (wr := []) ⟨hx, hb, hml, hown, hts⟩ (c_Row_size l D Z kI a0 b0 n0 H.size f0 l0 o0 hr0) (cw_Row_size hts k_384 ⟨Nat.le_of_ble_eq_true rfl, Nat.le_of_ble_eq_true rfl⟩) hK hZ hP hD hS hA [0, 1] [] (g_recv hK hP (ci := 4) (q0 := 0) rfl rfl) rfl rfl (by decide) (by decide) (by decide) rfl hl.1 rfl (Nat.le_of_ble_eq_true rfl) d_Word_endOfName_29 ⟨Nat.zero_le _, Nat.zero_le _⟩ (fun r_4 u_4 H locs hw hP hD hS => ?_)
        have e_4 := hw
        subst e_4
        have hP : va_P D vwCl [(a0, .inr (4, [.ref b0, .int (nI l0.length), .int o0])), (b0, .inl (kI, n0, .inl f0))] H := hP
        have hD : va_D A [(a0, .inr (4, [.ref b0, .int (nI l0.length), .int o0])), (b0, .inl (kI, n0, .inl f0))] := hD
        exact hret (m_Row_size l0) () _ _ _ _ d_Word_endOfName_32 rfl (hRES.symm.trans hF) hP hD hS
      · rw [if_neg c_3] at hF
        refine lv_aload_n hx hb d_Word_endOfName_10 rfl (lv_at hl 0 rfl) ?_
        refine lv_iload_n hx hb d_Word_endOfName_11 rfl (lv_at hl 1 rfl) ?_
        refine g_Vi (As := [.int i2]) (rest := []) (wr := []) ⟨hx, hb, hml, hown, hts⟩ (c_Row_get l D Z kI a0 b0 n0 H.size f0 l0 o0 i2 hr0) (cw_Row_get hts k_380 ⟨Nat.le_of_ble_eq_true rfl, Nat.le_of_ble_eq_true rfl⟩) hK hZ hP hD hS hA [0, 1] [] (g_recv hK hP (ci := 4) (q0 := 0) rfl rfl) rfl rfl (by decide) (by decide) (by decide) rfl hl.1 rfl (Nat.le_of_ble_eq_true rfl) d_Word_endOfName_12 ⟨Nat.zero_le _, Nat.zero_le _⟩ (fun r_5 u_5 H locs hw hP hD hS => ?_)
        have e_5 := hw
        subst e_5
        have hP : va_P D vwCl [(a0, .inr (4, [.ref b0, .int (nI l0.length), .int o0])), (b0, .inl (kI, n0, .inl f0))] H := hP
        have hD : va_D A [(a0, .inr (4, [.ref b0, .int (nI l0.length), .int o0])), (b0, .inl (kI, n0, .inl f0))] := hD
        refine lv_bipush (v := 63) hx hb d_Word_endOfName_15 (by decide) ?_
        refine lv_icmp_ne (tgt := 22) hx hb d_Word_endOfName_17 (by decide) (fun c_6 => ?_) (fun c_6 => ?_)
        · rw [if_neg c_6] at hF
          refine lv_iinc (v := (i2 + 1)) (lv' := [(2, .int (i2 + 1)), (0, .ref a0)]) hx hb d_Word_endOfName_22 hl (k := 1) rfl rfl (by decide) rfl (fun ls hl => ?_)
          refine lv_goto (tgt := 2) hx hb d_Word_endOfName_25 (by decide) ?_
          exact ih2 (i2 + 1)  _ _ _  (Nat.lt_of_lt_of_le (g_dec1 c_3) (Nat.le_of_lt_succ hn2)) hF hP hD hS (lv_sub hl [1, 0] rfl)
        · rw [if_pos c_6] at hF
          refine lv_iload_n hx hb d_Word_endOfName_20 rfl (lv_at hl 1 rfl) ?_
          exact hret i2 () _ _ _ _ d_Word_endOfName_21 rfl (hRES.symm.trans hF) hP hD hS
  have hF := hRES
  rw [m_Word_endOfName] at hF
  refine lv_iload_n hx hb d_Word_endOfName_0 rfl (lv_at hl 1 rfl) ?_
  refine lv_istore_n (lv' := [(2, .int p1), (0, .ref a0), (1, .int p1)]) hx hb d_Word_endOfName_1 rfl hl (by decide) rfl (fun ls hl => ?_)
  exact lp2 (((m_Row_size l0).toInt - p1.toInt).toNat + 1) p1  _ _ _  (Nat.lt_succ_self _) hF hP hD hS (lv_sub hl [1, 0] rfl)
theorem cw_Word_endOfName {R : Room} {s : State} {args : Array Value} {own : String} {idx : Nat} (hts : ∀ w ∈ gW, w.before args s = true) (hl : Cond.methodLink own idx y_Word_endOfName ∈ gW) (hR : rm_Word_endOfName.frames + 1 ≤ R.frames ∧ 8 + (3 + 11) + rm_Word_endOfName.locals ≤ R.locals) : CallB R s args own idx y_Word_endOfName b_Word_endOfName 3 (some .int) w_Word_endOfName rm_Word_endOfName 0 0 2 ∧ (Cond.static y_Word_endOfName).before args s = true := va_cwS 2 hts (gW_S hl k_382 k_76 k_383) rfl rfl rfl (by decide +kernel) hR
def m_Word_takesKind (p1 : Int32) : Int32 × Int32 :=
  if p1 = 66 then
    (1, 1)
  else
    if p1 = 98 then
      (1, 1)
    else
      if p1 = 81 then
        (1, 0)
      else
        if p1 = 113 then
          (1, 0)
        else
          (0, 0)
def rm_Word_takesKind : Room := { frames := 0, cells := 0, slots := 0, locals := 0 }
set_option maxHeartbeats 4000000 in
set_option maxRecDepth 100000 in
theorem c_Word_takesKind (l : Launch) (D : va_G) (Z : gZT) (kI : ClassId) (a0 : Nat) (sz : Nat) (v0_charset : Int32) (v0_based : Int32) (v0_from : Int32) (v0_to : Int32) (v0_next : Int32) (p1 : Int32) : gMi l y_Word_takesKind w_Word_takesKind rm_Word_takesKind D Z kI [.ref a0, .int p1] sz [(a0, .inr (6, [.int v0_charset, .int v0_based, .int v0_from, .int v0_to, .int v0_next]))] (fun (r : Int32) (u : Int32) => m_Word_takesKind p1 = (r, u)) (fun (u : Int32) => ([(a0, .inr (6, [.int v0_charset, .int u, .int v0_from, .int v0_to, .int v0_next]))] : va_W)) := by
  refine g_ofi (cc := b_Word_takesKind) (maxL := 2) (ty := .boolean) (by decide) rfl (Nat.le_of_ble_eq_true rfl) ?_
  intro p e s m below meth c A Q H ls hx hb hml hown hts hA hK hZ hP hD hS hl hret
  have hown : s.vm.findClass "MailCharacters$Word" = some m.cls := hown
  have hl : lv_has ls 2 [(0, .ref a0), (1, .int p1)] := hl
  obtain ⟨RES, hRES⟩ : ∃ z, z = m_Word_takesKind p1 := ⟨_, rfl⟩
  have hF := hRES
  rw [m_Word_takesKind] at hF
  refine lv_aload_n hx hb d_Word_takesKind_0 rfl (lv_at hl 0 rfl) ?_
  refine lv_iload_n hx hb d_Word_takesKind_1 rfl (lv_at hl 1 rfl) ?_
  refine lv_bipush (v := 66) hx hb d_Word_takesKind_2 (by decide) ?_
  refine lv_icmp_eq (tgt := 13) hx hb d_Word_takesKind_4 (by decide) (fun c_1 => ?_) (fun c_1 => ?_)
  · rw [if_pos c_1] at hF
    refine lv_iconst (v := 1) hx hb d_Word_takesKind_13 (by decide) ?_
    refine lv_goto (tgt := 18) hx hb d_Word_takesKind_14 (by decide) ?_
    refine va_put (D := D) (ci := 6) (v := .int 1) (ty := .boolean) (C := "MailCharacters$Word") (T := F_Word) (N := 5) hx hb hts i_Word t_Word t_Word_ok n_Word hown hK hP hD hS 0 rfl rfl 1 (by decide) (hts _ k_218) (fun _ h9 => h9) rfl (by decide +kernel) rfl rfl (Nat.le_of_ble_eq_true rfl) d_Word_takesKind_18 (fun H locs hP hD hS => ?_)
    have hP : va_P D vwCl [(a0, .inr (6, [.int v0_charset, .int 1, .int v0_from, .int v0_to, .int v0_next]))] H := hP
    have hD : va_D A [(a0, .inr (6, [.int v0_charset, .int 1, .int v0_from, .int v0_to, .int v0_next]))] := hD
    refine lv_aload_n hx hb d_Word_takesKind_21 rfl (lv_at hl 0 rfl) ?_
    refine va_get (D := D) (ci := 6) (v := .int 1) (C := "MailCharacters$Word") (T := F_Word) (N := 5) hx hb hts i_Word hown hK hP 0 rfl rfl 1 (by decide) (hts _ k_218) (fun _ h9 => h9) rfl d_Word_takesKind_22 ?_
    refine lv_if_ne (tgt := 40) hx hb d_Word_takesKind_25 (by decide) (fun c_2 => ?_) (fun c_2 => ?_)
    · refine lv_iconst (v := 1) hx hb d_Word_takesKind_40 (by decide) ?_
      refine lv_goto (tgt := 45) hx hb d_Word_takesKind_41 (by decide) ?_
      exact hret 1 1 _ _ _ _ d_Word_takesKind_45 rfl (hRES.symm.trans hF) hP hD hS
    · exact absurd c_2 (by decide)
  · rw [if_neg c_1] at hF
    refine lv_iload_n hx hb d_Word_takesKind_7 rfl (lv_at hl 1 rfl) ?_
    refine lv_bipush (v := 98) hx hb d_Word_takesKind_8 (by decide) ?_
    refine lv_icmp_ne (tgt := 17) hx hb d_Word_takesKind_10 (by decide) (fun c_3 => ?_) (fun c_3 => ?_)
    · rw [if_neg c_3] at hF
      refine lv_iconst (v := 0) hx hb d_Word_takesKind_17 (by decide) ?_
      refine va_put (D := D) (ci := 6) (v := .int 0) (ty := .boolean) (C := "MailCharacters$Word") (T := F_Word) (N := 5) hx hb hts i_Word t_Word t_Word_ok n_Word hown hK hP hD hS 0 rfl rfl 1 (by decide) (hts _ k_218) (fun _ h9 => h9) rfl (by decide +kernel) rfl rfl (Nat.le_of_ble_eq_true rfl) d_Word_takesKind_18 (fun H locs hP hD hS => ?_)
      have hP : va_P D vwCl [(a0, .inr (6, [.int v0_charset, .int 0, .int v0_from, .int v0_to, .int v0_next]))] H := hP
      have hD : va_D A [(a0, .inr (6, [.int v0_charset, .int 0, .int v0_from, .int v0_to, .int v0_next]))] := hD
      refine lv_aload_n hx hb d_Word_takesKind_21 rfl (lv_at hl 0 rfl) ?_
      refine va_get (D := D) (ci := 6) (v := .int 0) (C := "MailCharacters$Word") (T := F_Word) (N := 5) hx hb hts i_Word hown hK hP 0 rfl rfl 1 (by decide) (hts _ k_218) (fun _ h9 => h9) rfl d_Word_takesKind_22 ?_
      refine lv_if_ne (tgt := 40) hx hb d_Word_takesKind_25 (by decide) (fun c_4 => ?_) (fun c_4 => ?_)
      · exact absurd c_4 (by decide)
      · refine lv_iload_n hx hb d_Word_takesKind_28 rfl (lv_at hl 1 rfl) ?_
        refine lv_bipush (v := 81) hx hb d_Word_takesKind_29 (by decide) ?_
        refine lv_icmp_eq (tgt := 40) hx hb d_Word_takesKind_31 (by decide) (fun c_5 => ?_) (fun c_5 => ?_)
        · rw [if_pos c_5] at hF
          refine lv_iconst (v := 1) hx hb d_Word_takesKind_40 (by decide) ?_
          refine lv_goto (tgt := 45) hx hb d_Word_takesKind_41 (by decide) ?_
          exact hret 1 0 _ _ _ _ d_Word_takesKind_45 rfl (hRES.symm.trans hF) hP hD hS
        · rw [if_neg c_5] at hF
          refine lv_iload_n hx hb d_Word_takesKind_34 rfl (lv_at hl 1 rfl) ?_
          refine lv_bipush (v := 113) hx hb d_Word_takesKind_35 (by decide) ?_
          refine lv_icmp_ne (tgt := 44) hx hb d_Word_takesKind_37 (by decide) (fun c_6 => ?_) (fun c_6 => ?_)
          · rw [if_neg c_6] at hF
            refine lv_iconst (v := 0) hx hb d_Word_takesKind_44 (by decide) ?_
            exact hret 0 0 _ _ _ _ d_Word_takesKind_45 rfl (hRES.symm.trans hF) hP hD hS
          · rw [if_pos c_6] at hF
            refine lv_iconst (v := 1) hx hb d_Word_takesKind_40 (by decide) ?_
            refine lv_goto (tgt := 45) hx hb d_Word_takesKind_41 (by decide) ?_
            exact hret 1 0 _ _ _ _ d_Word_takesKind_45 rfl (hRES.symm.trans hF) hP hD hS
    · rw [if_pos c_3] at hF
      refine lv_iconst (v := 1) hx hb d_Word_takesKind_13 (by decide) ?_
      refine lv_goto (tgt := 18) hx hb d_Word_takesKind_14 (by decide) ?_
      refine va_put (D := D) (ci := 6) (v := .int 1) (ty := .boolean) (C := "MailCharacters$Word") (T := F_Word) (N := 5) hx hb hts i_Word t_Word t_Word_ok n_Word hown hK hP hD hS 0 rfl rfl 1 (by decide) (hts _ k_218) (fun _ h9 => h9) rfl (by decide +kernel) rfl rfl (Nat.le_of_ble_eq_true rfl) d_Word_takesKind_18 (fun H locs hP hD hS => ?_)
      have hP : va_P D vwCl [(a0, .inr (6, [.int v0_charset, .int 1, .int v0_from, .int v0_to, .int v0_next]))] H := hP
      have hD : va_D A [(a0, .inr (6, [.int v0_charset, .int 1, .int v0_from, .int v0_to, .int v0_next]))] := hD
      refine lv_aload_n hx hb d_Word_takesKind_21 rfl (lv_at hl 0 rfl) ?_
      refine va_get (D := D) (ci := 6) (v := .int 1) (C := "MailCharacters$Word") (T := F_Word) (N := 5) hx hb hts i_Word hown hK hP 0 rfl rfl 1 (by decide) (hts _ k_218) (fun _ h9 => h9) rfl d_Word_takesKind_22 ?_
      refine lv_if_ne (tgt := 40) hx hb d_Word_takesKind_25 (by decide) (fun c_7 => ?_) (fun c_7 => ?_)
      · refine lv_iconst (v := 1) hx hb d_Word_takesKind_40 (by decide) ?_
        refine lv_goto (tgt := 45) hx hb d_Word_takesKind_41 (by decide) ?_
        exact hret 1 1 _ _ _ _ d_Word_takesKind_45 rfl (hRES.symm.trans hF) hP hD hS
      · exact absurd c_7 (by decide)
theorem cw_Word_takesKind {R : Room} {s : State} {args : Array Value} {own : String} {idx : Nat} (hts : ∀ w ∈ gW, w.before args s = true) (hl : Cond.methodLink own idx y_Word_takesKind ∈ gW) (hR : rm_Word_takesKind.frames + 1 ≤ R.frames ∧ 8 + (2 + 11) + rm_Word_takesKind.locals ≤ R.locals) : CallW R s args own "MailCharacters$Word" idx y_Word_takesKind b_Word_takesKind 2 (some .boolean) w_Word_takesKind rm_Word_takesKind 0 0 1 := cwV 1 hts (gW_V hl k_387 k_0 k_76 k_388) rfl rfl rfl (by decide +kernel) hR
def m_Word_endOfBytes_l2 : Nat → Int32 → List Int32 → Int32
  | 0, _, _ => 0
  | nf2 + 1, i2, l0 =>
    if (m_Row_size l0) ≤ i2 then
      (m_Row_size l0)
    else
      if (m_Row_get l0 i2) = 63 then
        i2
      else
        if (m_Row_get l0 i2) = 32 then
          i2
        else
          if (m_Row_get l0 i2) = 9 then
            i2
          else
            m_Word_endOfBytes_l2 nf2 (i2 + 1) l0
def m_Word_endOfBytes (l0 : List Int32) (p1 : Int32) : Int32 :=
  m_Word_endOfBytes_l2 (((m_Row_size l0).toInt - p1.toInt).toNat + 1) p1 l0
def rm_Word_endOfBytes : Room := { frames := 1, cells := 0, slots := 0, locals := 21 }
set_option maxHeartbeats 4000000 in
set_option maxRecDepth 100000 in
theorem c_Word_endOfBytes (l : Launch) (D : va_G) (Z : gZT) (kI : ClassId) (a0 : Nat) (b0 : Nat) (n0 : Nat) (sz : Nat) (f0 : Nat → Int32) (l0 : List Int32) (o0 : Int32) (p1 : Int32) (hr0 : g_rw n0 f0 l0) : gMi l y_Word_endOfBytes w_Word_endOfBytes rm_Word_endOfBytes D Z kI [.ref a0, .int p1] sz [(a0, .inr (4, [.ref b0, .int (nI l0.length), .int o0])), (b0, .inl (kI, n0, .inl f0))] (fun (r : Int32) (_u : Unit) => m_Word_endOfBytes l0 p1 = r) (fun (_u : Unit) => ([(a0, .inr (4, [.ref b0, .int (nI l0.length), .int o0])), (b0, .inl (kI, n0, .inl f0))] : va_W)) := by
  refine g_ofi (cc := b_Word_endOfBytes) (maxL := 4) (ty := .int) (by decide) rfl (Nat.le_of_ble_eq_true rfl) ?_
  intro p e s m below meth c A Q H ls hx hb hml hown hts hA hK hZ hP hD hS hl hret
  have hown : s.vm.findClass "MailCharacters$Word" = some m.cls := hown
  have hl : lv_has ls 4 [(0, .ref a0), (1, .int p1)] := hl
  obtain ⟨RES, hRES⟩ : ∃ z, z = m_Word_endOfBytes l0 p1 := ⟨_, rfl⟩
  have lp2 : ∀ (nf2 : Nat) (i2 : Int32) (H : Heap) (locs : List Loc) (ls : Array Slot), ((m_Row_size l0).toInt - i2.toInt).toNat < nf2 → RES = m_Word_endOfBytes_l2 nf2 i2 l0 → va_P D vwCl [(a0, .inr (4, [.ref b0, .int (nI l0.length), .int o0])), (b0, .inl (kI, n0, .inl f0))] H → va_D A [(a0, .inr (4, [.ref b0, .int (nI l0.length), .int o0])), (b0, .inl (kI, n0, .inl f0))] → va_S A s.heap H locs → lv_has ls 4 [(0, .ref a0), (2, .int i2)] → W p l e rm_Word_endOfBytes s m ([.ref a0, .int p1] : List Value).toArray below meth c H locs 0 0 Q (F0 m 2 ls []) := by
    intro nf2
    induction nf2 with
    | zero => intro i2 H locs ls hn2; exact absurd hn2 (Nat.not_lt_zero _)
    | succ nf2 ih2 =>
      intro i2 H locs ls hn2 hF hP hD hS hl
      rw [m_Word_endOfBytes_l2] at hF
      refine lv_iload_n hx hb d_Word_endOfBytes_2 rfl (lv_at hl 1 rfl) ?_
      refine lv_aload_n hx hb d_Word_endOfBytes_3 rfl (lv_at hl 0 rfl) ?_
      refine g_Vi (As := []) (rest := [.int i2]) (wr := []) ⟨hx, hb, hml, hown, hts⟩ (c_Row_size l D Z kI a0 b0 n0 H.size f0 l0 o0 hr0) (cw_Row_size hts k_384 ⟨Nat.le_of_ble_eq_true rfl, Nat.le_of_ble_eq_true rfl⟩) hK hZ hP hD hS hA [0, 1] [] (g_recv hK hP (ci := 4) (q0 := 0) rfl rfl) rfl rfl (by decide) (by decide) (by decide) rfl hl.1 rfl (Nat.le_of_ble_eq_true rfl) d_Word_endOfBytes_4 ⟨Nat.zero_le _, Nat.zero_le _⟩ (fun r_2 u_2 H locs hw hP hD hS => ?_)
      have e_2 := hw
      subst e_2
      have hP : va_P D vwCl [(a0, .inr (4, [.ref b0, .int (nI l0.length), .int o0])), (b0, .inl (kI, n0, .inl f0))] H := hP
      have hD : va_D A [(a0, .inr (4, [.ref b0, .int (nI l0.length), .int o0])), (b0, .inl (kI, n0, .inl f0))] := hD
      refine lv_icmp_ge (tgt := 42) hx hb d_Word_endOfBytes_7 (by decide) (fun c_3 => ?_) (fun c_3 => ?_)
      · rw [if_pos c_3] at hF
        refine lv_aload_n hx hb d_Word_endOfBytes_42 rfl (lv_at hl 0 rfl) ?_
        refine g_Vi (As := []) (rest := []) (wr := []) ⟨hx, hb, hml, hown, hts⟩ (c_Row_size l D Z kI a0 b0 n0 H.size f0 l0 o0 hr0) (cw_Row_size hts k_384 ⟨Nat.le_of_ble_eq_true rfl, Nat.le_of_ble_eq_true rfl⟩) hK hZ hP hD hS hA [0, 1] [] (g_recv hK hP (ci := 4) (q0 := 0) rfl rfl) rfl rfl (by decide) (by decide) (by decide) rfl hl.1 rfl (Nat.le_of_ble_eq_true rfl) d_Word_endOfBytes_43 ⟨Nat.zero_le _, Nat.zero_le _⟩ (fun r_4 u_4 H locs hw hP hD hS => ?_)
        have e_4 := hw
        subst e_4
        have hP : va_P D vwCl [(a0, .inr (4, [.ref b0, .int (nI l0.length), .int o0])), (b0, .inl (kI, n0, .inl f0))] H := hP
        have hD : va_D A [(a0, .inr (4, [.ref b0, .int (nI l0.length), .int o0])), (b0, .inl (kI, n0, .inl f0))] := hD
        exact hret (m_Row_size l0) () _ _ _ _ d_Word_endOfBytes_46 rfl (hRES.symm.trans hF) hP hD hS
      · rw [if_neg c_3] at hF
        refine lv_aload_n hx hb d_Word_endOfBytes_10 rfl (lv_at hl 0 rfl) ?_
        refine lv_iload_n hx hb d_Word_endOfBytes_11 rfl (lv_at hl 1 rfl) ?_
        refine g_Vi (As := [.int i2]) (rest := []) (wr := []) ⟨hx, hb, hml, hown, hts⟩ (c_Row_get l D Z kI a0 b0 n0 H.size f0 l0 o0 i2 hr0) (cw_Row_get hts k_380 ⟨Nat.le_of_ble_eq_true rfl, Nat.le_of_ble_eq_true rfl⟩) hK hZ hP hD hS hA [0, 1] [] (g_recv hK hP (ci := 4) (q0 := 0) rfl rfl) rfl rfl (by decide) (by decide) (by decide) rfl hl.1 rfl (Nat.le_of_ble_eq_true rfl) d_Word_endOfBytes_12 ⟨Nat.zero_le _, Nat.zero_le _⟩ (fun r_5 u_5 H locs hw hP hD hS => ?_)
        have e_5 := hw
        subst e_5
        have hP : va_P D vwCl [(a0, .inr (4, [.ref b0, .int (nI l0.length), .int o0])), (b0, .inl (kI, n0, .inl f0))] H := hP
        have hD : va_D A [(a0, .inr (4, [.ref b0, .int (nI l0.length), .int o0])), (b0, .inl (kI, n0, .inl f0))] := hD
        refine lv_istore_n (lv' := [(3, .int (m_Row_get l0 i2)), (0, .ref a0), (2, .int i2)]) hx hb d_Word_endOfBytes_15 rfl hl (by decide) rfl (fun ls hl => ?_)
        refine lv_iload_n hx hb d_Word_endOfBytes_16 rfl (lv_at hl 0 rfl) ?_
        refine lv_bipush (v := 63) hx hb d_Word_endOfBytes_17 (by decide) ?_
        refine lv_icmp_eq (tgt := 34) hx hb d_Word_endOfBytes_19 (by decide) (fun c_6 => ?_) (fun c_6 => ?_)
        · rw [if_pos c_6] at hF
          refine lv_iload_n hx hb d_Word_endOfBytes_34 rfl (lv_at hl 2 rfl) ?_
          exact hret i2 () _ _ _ _ d_Word_endOfBytes_35 rfl (hRES.symm.trans hF) hP hD hS
        · rw [if_neg c_6] at hF
          refine lv_iload_n hx hb d_Word_endOfBytes_22 rfl (lv_at hl 0 rfl) ?_
          refine lv_bipush (v := 32) hx hb d_Word_endOfBytes_23 (by decide) ?_
          refine lv_icmp_eq (tgt := 34) hx hb d_Word_endOfBytes_25 (by decide) (fun c_7 => ?_) (fun c_7 => ?_)
          · rw [if_pos c_7] at hF
            refine lv_iload_n hx hb d_Word_endOfBytes_34 rfl (lv_at hl 2 rfl) ?_
            exact hret i2 () _ _ _ _ d_Word_endOfBytes_35 rfl (hRES.symm.trans hF) hP hD hS
          · rw [if_neg c_7] at hF
            refine lv_iload_n hx hb d_Word_endOfBytes_28 rfl (lv_at hl 0 rfl) ?_
            refine lv_bipush (v := 9) hx hb d_Word_endOfBytes_29 (by decide) ?_
            refine lv_icmp_ne (tgt := 36) hx hb d_Word_endOfBytes_31 (by decide) (fun c_8 => ?_) (fun c_8 => ?_)
            · rw [if_neg c_8] at hF
              refine lv_iinc (v := (i2 + 1)) (lv' := [(2, .int (i2 + 1)), (3, .int (m_Row_get l0 i2)), (0, .ref a0)]) hx hb d_Word_endOfBytes_36 hl (k := 2) rfl rfl (by decide) rfl (fun ls hl => ?_)
              refine lv_goto (tgt := 2) hx hb d_Word_endOfBytes_39 (by decide) ?_
              exact ih2 (i2 + 1)  _ _ _  (Nat.lt_of_lt_of_le (g_dec1 c_3) (Nat.le_of_lt_succ hn2)) hF hP hD hS (lv_sub hl [2, 0] rfl)
            · rw [if_pos c_8] at hF
              refine lv_iload_n hx hb d_Word_endOfBytes_34 rfl (lv_at hl 2 rfl) ?_
              exact hret i2 () _ _ _ _ d_Word_endOfBytes_35 rfl (hRES.symm.trans hF) hP hD hS
  have hF := hRES
  rw [m_Word_endOfBytes] at hF
  refine lv_iload_n hx hb d_Word_endOfBytes_0 rfl (lv_at hl 1 rfl) ?_
  refine lv_istore_n (lv' := [(2, .int p1), (0, .ref a0), (1, .int p1)]) hx hb d_Word_endOfBytes_1 rfl hl (by decide) rfl (fun ls hl => ?_)
  exact lp2 (((m_Row_size l0).toInt - p1.toInt).toNat + 1) p1  _ _ _  (Nat.lt_succ_self _) hF hP hD hS (lv_sub hl [1, 0] rfl)
theorem cw_Word_endOfBytes {R : Room} {s : State} {args : Array Value} {own : String} {idx : Nat} (hts : ∀ w ∈ gW, w.before args s = true) (hl : Cond.methodLink own idx y_Word_endOfBytes ∈ gW) (hR : rm_Word_endOfBytes.frames + 1 ≤ R.frames ∧ 8 + (4 + 11) + rm_Word_endOfBytes.locals ≤ R.locals) : CallB R s args own idx y_Word_endOfBytes b_Word_endOfBytes 4 (some .int) w_Word_endOfBytes rm_Word_endOfBytes 0 0 2 ∧ (Cond.static y_Word_endOfBytes).before args s = true := va_cwS 2 hts (gW_S hl k_390 k_76 k_391) rfl rfl rfl (by decide +kernel) hR
def m_Word_starOrEnd_l2 : Nat → Int32 → Int32 → List Int32 → Int32
  | 0, _, _, _ => 0
  | nf2 + 1, i2, i3, l0 =>
    if i2 ≤ i3 then
      i2
    else
      if (m_Row_get l0 i3) = 42 then
        i3
      else
        m_Word_starOrEnd_l2 nf2 i2 (i3 + 1) l0
def m_Word_starOrEnd (l0 : List Int32) (p1 : Int32) (p2 : Int32) : Int32 :=
  m_Word_starOrEnd_l2 ((p2.toInt - p1.toInt).toNat + 1) p2 p1 l0
def rm_Word_starOrEnd : Room := { frames := 1, cells := 0, slots := 0, locals := 21 }
set_option maxHeartbeats 4000000 in
set_option maxRecDepth 100000 in
theorem c_Word_starOrEnd (l : Launch) (D : va_G) (Z : gZT) (kI : ClassId) (a0 : Nat) (b0 : Nat) (n0 : Nat) (sz : Nat) (f0 : Nat → Int32) (l0 : List Int32) (o0 : Int32) (p1 : Int32) (p2 : Int32) (hr0 : g_rw n0 f0 l0) : gMi l y_Word_starOrEnd w_Word_starOrEnd rm_Word_starOrEnd D Z kI [.ref a0, .int p1, .int p2] sz [(a0, .inr (4, [.ref b0, .int (nI l0.length), .int o0])), (b0, .inl (kI, n0, .inl f0))] (fun (r : Int32) (_u : Unit) => m_Word_starOrEnd l0 p1 p2 = r) (fun (_u : Unit) => ([(a0, .inr (4, [.ref b0, .int (nI l0.length), .int o0])), (b0, .inl (kI, n0, .inl f0))] : va_W)) := by
  refine g_ofi (cc := b_Word_starOrEnd) (maxL := 4) (ty := .int) (by decide) rfl (Nat.le_of_ble_eq_true rfl) ?_
  intro p e s m below meth c A Q H ls hx hb hml hown hts hA hK hZ hP hD hS hl hret
  have hown : s.vm.findClass "MailCharacters$Word" = some m.cls := hown
  have hl : lv_has ls 4 [(0, .ref a0), (1, .int p1), (2, .int p2)] := hl
  obtain ⟨RES, hRES⟩ : ∃ z, z = m_Word_starOrEnd l0 p1 p2 := ⟨_, rfl⟩
  have lp2 : ∀ (nf2 : Nat) (i2 : Int32) (i3 : Int32) (H : Heap) (locs : List Loc) (ls : Array Slot), (i2.toInt - i3.toInt).toNat < nf2 → RES = m_Word_starOrEnd_l2 nf2 i2 i3 l0 → va_P D vwCl [(a0, .inr (4, [.ref b0, .int (nI l0.length), .int o0])), (b0, .inl (kI, n0, .inl f0))] H → va_D A [(a0, .inr (4, [.ref b0, .int (nI l0.length), .int o0])), (b0, .inl (kI, n0, .inl f0))] → va_S A s.heap H locs → lv_has ls 4 [(0, .ref a0), (2, .int i2), (3, .int i3)] → W p l e rm_Word_starOrEnd s m ([.ref a0, .int p1, .int p2] : List Value).toArray below meth c H locs 0 0 Q (F0 m 2 ls []) := by
    intro nf2
    induction nf2 with
    | zero => intro i2 i3 H locs ls hn2; exact absurd hn2 (Nat.not_lt_zero _)
    | succ nf2 ih2 =>
      intro i2 i3 H locs ls hn2 hF hP hD hS hl
      rw [m_Word_starOrEnd_l2] at hF
      refine lv_iload_n hx hb d_Word_starOrEnd_2 rfl (lv_at hl 2 rfl) ?_
      refine lv_iload_n hx hb d_Word_starOrEnd_3 rfl (lv_at hl 1 rfl) ?_
      refine lv_icmp_ge (tgt := 25) hx hb d_Word_starOrEnd_4 (by decide) (fun c_1 => ?_) (fun c_1 => ?_)
      · rw [if_pos c_1] at hF
        refine lv_iload_n hx hb d_Word_starOrEnd_25 rfl (lv_at hl 1 rfl) ?_
        exact hret i2 () _ _ _ _ d_Word_starOrEnd_26 rfl (hRES.symm.trans hF) hP hD hS
      · rw [if_neg c_1] at hF
        refine lv_aload_n hx hb d_Word_starOrEnd_7 rfl (lv_at hl 0 rfl) ?_
        refine lv_iload_n hx hb d_Word_starOrEnd_8 rfl (lv_at hl 2 rfl) ?_
        refine g_Vi (As := [.int i3]) (rest := []) (wr := []) ⟨hx, hb, hml, hown, hts⟩ (c_Row_get l D Z kI a0 b0 n0 H.size f0 l0 o0 i3 hr0) (cw_Row_get hts k_380 ⟨Nat.le_of_ble_eq_true rfl, Nat.le_of_ble_eq_true rfl⟩) hK hZ hP hD hS hA [0, 1] [] (g_recv hK hP (ci := 4) (q0 := 0) rfl rfl) rfl rfl (by decide) (by decide) (by decide) rfl hl.1 rfl (Nat.le_of_ble_eq_true rfl) d_Word_starOrEnd_9 ⟨Nat.zero_le _, Nat.zero_le _⟩ (fun r_2 u_2 H locs hw hP hD hS => ?_)
        have e_2 := hw
        subst e_2
        have hP : va_P D vwCl [(a0, .inr (4, [.ref b0, .int (nI l0.length), .int o0])), (b0, .inl (kI, n0, .inl f0))] H := hP
        have hD : va_D A [(a0, .inr (4, [.ref b0, .int (nI l0.length), .int o0])), (b0, .inl (kI, n0, .inl f0))] := hD
        refine lv_bipush (v := 42) hx hb d_Word_starOrEnd_12 (by decide) ?_
        refine lv_icmp_ne (tgt := 19) hx hb d_Word_starOrEnd_14 (by decide) (fun c_3 => ?_) (fun c_3 => ?_)
        · rw [if_neg c_3] at hF
          refine lv_iinc (v := (i3 + 1)) (lv' := [(3, .int (i3 + 1)), (0, .ref a0), (2, .int i2)]) hx hb d_Word_starOrEnd_19 hl (k := 2) rfl rfl (by decide) rfl (fun ls hl => ?_)
          refine lv_goto (tgt := 2) hx hb d_Word_starOrEnd_22 (by decide) ?_
          exact ih2 i2 (i3 + 1)  _ _ _  (Nat.lt_of_lt_of_le (g_dec1 c_1) (Nat.le_of_lt_succ hn2)) hF hP hD hS (lv_sub hl [1, 2, 0] rfl)
        · rw [if_pos c_3] at hF
          refine lv_iload_n hx hb d_Word_starOrEnd_17 rfl (lv_at hl 2 rfl) ?_
          exact hret i3 () _ _ _ _ d_Word_starOrEnd_18 rfl (hRES.symm.trans hF) hP hD hS
  have hF := hRES
  rw [m_Word_starOrEnd] at hF
  refine lv_iload_n hx hb d_Word_starOrEnd_0 rfl (lv_at hl 1 rfl) ?_
  refine lv_istore_n (lv' := [(3, .int p1), (0, .ref a0), (1, .int p1), (2, .int p2)]) hx hb d_Word_starOrEnd_1 rfl hl (by decide) rfl (fun ls hl => ?_)
  exact lp2 ((p2.toInt - p1.toInt).toNat + 1) p2 p1  _ _ _  (Nat.lt_succ_self _) hF hP hD hS (lv_sub hl [1, 3, 0] rfl)
theorem cw_Word_starOrEnd {R : Room} {s : State} {args : Array Value} {own : String} {idx : Nat} (hts : ∀ w ∈ gW, w.before args s = true) (hl : Cond.methodLink own idx y_Word_starOrEnd ∈ gW) (hR : rm_Word_starOrEnd.frames + 1 ≤ R.frames ∧ 8 + (4 + 11) + rm_Word_starOrEnd.locals ≤ R.locals) : CallB R s args own idx y_Word_starOrEnd b_Word_starOrEnd 4 (some .int) w_Word_starOrEnd rm_Word_starOrEnd 0 0 3 ∧ (Cond.static y_Word_starOrEnd).before args s = true := va_cwS 3 hts (gW_S hl k_393 k_76 k_394) rfl rfl rfl (by decide +kernel) hR
def m_MC_isBlank_l2 : Nat → Int32 → Int32 → List Int32 → Int32
  | 0, _, _, _ => 0
  | nf2 + 1, i2, i3, l1 =>
    if i2 ≤ i3 then
      1
    else
      if (m_Row_get l1 i3) = 32 then
        m_MC_isBlank_l2 nf2 i2 (i3 + 1) l1
      else
        if (m_Row_get l1 i3) = 9 then
          m_MC_isBlank_l2 nf2 i2 (i3 + 1) l1
        else
          if (m_Row_get l1 i3) = 13 then
            m_MC_isBlank_l2 nf2 i2 (i3 + 1) l1
          else
            if (m_Row_get l1 i3) = 10 then
              m_MC_isBlank_l2 nf2 i2 (i3 + 1) l1
            else
              0
def m_MC_isBlank (l1 : List Int32) (p1 : Int32) (p2 : Int32) : Int32 :=
  m_MC_isBlank_l2 ((p2.toInt - p1.toInt).toNat + 1) p2 p1 l1
def rm_MC_isBlank : Room := { frames := 1, cells := 0, slots := 0, locals := 21 }
set_option maxHeartbeats 4000000 in
set_option maxRecDepth 100000 in
theorem c_MC_isBlank (l : Launch) (D : va_G) (Z : gZT) (kI : ClassId) (a0 : Nat) (x0_ready : Nat) (x0_text : Nat) (x0_uncoder : Nat) (x0_coder : Nat) (x0_reader : Nat) (x0_writer : Nat) (x0_word : Nat) (x0_spare : Nat) (a1 : Nat) (b1 : Nat) (n1 : Nat) (sz : Nat) (f1 : Nat → Int32) (l1 : List Int32) (o1 : Int32) (p1 : Int32) (p2 : Int32) (hr1 : g_rw n1 f1 l1) : gMi l y_MC_isBlank w_MC_isBlank rm_MC_isBlank D Z kI [.ref a0, .int p1, .int p2] sz [(a0, .inr (8, [.ref x0_ready, .ref x0_text, .ref x0_uncoder, .ref x0_coder, .ref x0_reader, .ref x0_writer, .ref x0_word, .ref a1, .ref x0_spare])), (a1, .inr (4, [.ref b1, .int (nI l1.length), .int o1])), (b1, .inl (kI, n1, .inl f1))] (fun (r : Int32) (_u : Unit) => m_MC_isBlank l1 p1 p2 = r) (fun (_u : Unit) => ([(a0, .inr (8, [.ref x0_ready, .ref x0_text, .ref x0_uncoder, .ref x0_coder, .ref x0_reader, .ref x0_writer, .ref x0_word, .ref a1, .ref x0_spare])), (a1, .inr (4, [.ref b1, .int (nI l1.length), .int o1])), (b1, .inl (kI, n1, .inl f1))] : va_W)) := by
  refine g_ofi (cc := b_MC_isBlank) (maxL := 5) (ty := .boolean) (by decide) rfl (Nat.le_of_ble_eq_true rfl) ?_
  intro p e s m below meth c A Q H ls hx hb hml hown hts hA hK hZ hP hD hS hl hret
  have hown : s.vm.findClass "MailCharacters" = some m.cls := hown
  have hl : lv_has ls 5 [(0, .ref a0), (1, .int p1), (2, .int p2)] := hl
  obtain ⟨RES, hRES⟩ : ∃ z, z = m_MC_isBlank l1 p1 p2 := ⟨_, rfl⟩
  have lp2 : ∀ (nf2 : Nat) (i2 : Int32) (i3 : Int32) (H : Heap) (locs : List Loc) (ls : Array Slot), (i2.toInt - i3.toInt).toNat < nf2 → RES = m_MC_isBlank_l2 nf2 i2 i3 l1 → va_P D vwCl [(a0, .inr (8, [.ref x0_ready, .ref x0_text, .ref x0_uncoder, .ref x0_coder, .ref x0_reader, .ref x0_writer, .ref x0_word, .ref a1, .ref x0_spare])), (a1, .inr (4, [.ref b1, .int (nI l1.length), .int o1])), (b1, .inl (kI, n1, .inl f1))] H → va_D A [(a0, .inr (8, [.ref x0_ready, .ref x0_text, .ref x0_uncoder, .ref x0_coder, .ref x0_reader, .ref x0_writer, .ref x0_word, .ref a1, .ref x0_spare])), (a1, .inr (4, [.ref b1, .int (nI l1.length), .int o1])), (b1, .inl (kI, n1, .inl f1))] → va_S A s.heap H locs → lv_has ls 5 [(0, .ref a0), (2, .int i2), (3, .int i3)] → W p l e rm_MC_isBlank s m ([.ref a0, .int p1, .int p2] : List Value).toArray below meth c H locs 0 0 Q (F0 m 2 ls []) := by
    intro nf2
    induction nf2 with
    | zero => intro i2 i3 H locs ls hn2; exact absurd hn2 (Nat.not_lt_zero _)
    | succ nf2 ih2 =>
      intro i2 i3 H locs ls hn2 hF hP hD hS hl
      rw [m_MC_isBlank_l2] at hF
      refine lv_iload_n hx hb d_MC_isBlank_2 rfl (lv_at hl 2 rfl) ?_
      refine lv_iload_n hx hb d_MC_isBlank_3 rfl (lv_at hl 1 rfl) ?_
      refine lv_icmp_ge (tgt := 53) hx hb d_MC_isBlank_4 (by decide) (fun c_1 => ?_) (fun c_1 => ?_)
      · rw [if_pos c_1] at hF
        refine lv_iconst (v := 1) hx hb d_MC_isBlank_53 (by decide) ?_
        exact hret 1 () _ _ _ _ d_MC_isBlank_54 rfl (hRES.symm.trans hF) hP hD hS
      · rw [if_neg c_1] at hF
        refine lv_aload_n hx hb d_MC_isBlank_7 rfl (lv_at hl 0 rfl) ?_
        refine va_get (D := D) (ci := 8) (v := .ref a1) (C := "MailCharacters") (T := F_MC) (N := 9) hx hb hts i_MC hown hK hP 0 rfl rfl 7 (by decide) (hts _ k_243) (fun _ h9 => h9) rfl d_MC_isBlank_8 ?_
        refine lv_iload_n hx hb d_MC_isBlank_11 rfl (lv_at hl 2 rfl) ?_
        refine g_Vi (As := [.int i3]) (rest := []) (wr := [(a0, .inr (8, [.ref x0_ready, .ref x0_text, .ref x0_uncoder, .ref x0_coder, .ref x0_reader, .ref x0_writer, .ref x0_word, .ref a1, .ref x0_spare]))]) ⟨hx, hb, hml, hown, hts⟩ (c_Row_get l D Z kI a1 b1 n1 H.size f1 l1 o1 i3 hr1) (cw_Row_get hts k_400 ⟨Nat.le_of_ble_eq_true rfl, Nat.le_of_ble_eq_true rfl⟩) hK hZ hP hD hS hA [1, 2] [0] (g_recv hK hP (ci := 4) (q0 := 1) rfl rfl) rfl rfl (by decide) (by decide) (by decide) rfl hl.1 rfl (Nat.le_of_ble_eq_true rfl) d_MC_isBlank_12 ⟨Nat.zero_le _, Nat.zero_le _⟩ (fun r_2 u_2 H locs hw hP hD hS => ?_)
        have e_2 := hw
        subst e_2
        have hP : va_P D vwCl [(a0, .inr (8, [.ref x0_ready, .ref x0_text, .ref x0_uncoder, .ref x0_coder, .ref x0_reader, .ref x0_writer, .ref x0_word, .ref a1, .ref x0_spare])), (a1, .inr (4, [.ref b1, .int (nI l1.length), .int o1])), (b1, .inl (kI, n1, .inl f1))] H := hP
        have hD : va_D A [(a0, .inr (8, [.ref x0_ready, .ref x0_text, .ref x0_uncoder, .ref x0_coder, .ref x0_reader, .ref x0_writer, .ref x0_word, .ref a1, .ref x0_spare])), (a1, .inr (4, [.ref b1, .int (nI l1.length), .int o1])), (b1, .inl (kI, n1, .inl f1))] := hD
        refine lv_istore (lv' := [(4, .int (m_Row_get l1 i3)), (0, .ref a0), (2, .int i2), (3, .int i3)]) hx hb d_MC_isBlank_15 hl (by decide) rfl (fun ls hl => ?_)
        refine lv_iload hx hb d_MC_isBlank_17 (lv_at hl 0 rfl) ?_
        refine lv_bipush (v := 32) hx hb d_MC_isBlank_19 (by decide) ?_
        refine lv_icmp_eq (tgt := 47) hx hb d_MC_isBlank_21 (by decide) (fun c_3 => ?_) (fun c_3 => ?_)
        · rw [if_pos c_3] at hF
          refine lv_iinc (v := (i3 + 1)) (lv' := [(3, .int (i3 + 1)), (4, .int (m_Row_get l1 i3)), (0, .ref a0), (2, .int i2)]) hx hb d_MC_isBlank_47 hl (k := 3) rfl rfl (by decide) rfl (fun ls hl => ?_)
          refine lv_goto (tgt := 2) hx hb d_MC_isBlank_50 (by decide) ?_
          exact ih2 i2 (i3 + 1)  _ _ _  (Nat.lt_of_lt_of_le (g_dec1 c_1) (Nat.le_of_lt_succ hn2)) hF hP hD hS (lv_sub hl [2, 3, 0] rfl)
        · rw [if_neg c_3] at hF
          refine lv_iload hx hb d_MC_isBlank_24 (lv_at hl 0 rfl) ?_
          refine lv_bipush (v := 9) hx hb d_MC_isBlank_26 (by decide) ?_
          refine lv_icmp_eq (tgt := 47) hx hb d_MC_isBlank_28 (by decide) (fun c_4 => ?_) (fun c_4 => ?_)
          · rw [if_pos c_4] at hF
            refine lv_iinc (v := (i3 + 1)) (lv' := [(3, .int (i3 + 1)), (4, .int (m_Row_get l1 i3)), (0, .ref a0), (2, .int i2)]) hx hb d_MC_isBlank_47 hl (k := 3) rfl rfl (by decide) rfl (fun ls hl => ?_)
            refine lv_goto (tgt := 2) hx hb d_MC_isBlank_50 (by decide) ?_
            exact ih2 i2 (i3 + 1)  _ _ _  (Nat.lt_of_lt_of_le (g_dec1 c_1) (Nat.le_of_lt_succ hn2)) hF hP hD hS (lv_sub hl [2, 3, 0] rfl)
          · rw [if_neg c_4] at hF
            refine lv_iload hx hb d_MC_isBlank_31 (lv_at hl 0 rfl) ?_
            refine lv_bipush (v := 13) hx hb d_MC_isBlank_33 (by decide) ?_
            refine lv_icmp_eq (tgt := 47) hx hb d_MC_isBlank_35 (by decide) (fun c_5 => ?_) (fun c_5 => ?_)
            · rw [if_pos c_5] at hF
              refine lv_iinc (v := (i3 + 1)) (lv' := [(3, .int (i3 + 1)), (4, .int (m_Row_get l1 i3)), (0, .ref a0), (2, .int i2)]) hx hb d_MC_isBlank_47 hl (k := 3) rfl rfl (by decide) rfl (fun ls hl => ?_)
              refine lv_goto (tgt := 2) hx hb d_MC_isBlank_50 (by decide) ?_
              exact ih2 i2 (i3 + 1)  _ _ _  (Nat.lt_of_lt_of_le (g_dec1 c_1) (Nat.le_of_lt_succ hn2)) hF hP hD hS (lv_sub hl [2, 3, 0] rfl)
            · rw [if_neg c_5] at hF
              refine lv_iload hx hb d_MC_isBlank_38 (lv_at hl 0 rfl) ?_
              refine lv_bipush (v := 10) hx hb d_MC_isBlank_40 (by decide) ?_
              refine lv_icmp_eq (tgt := 47) hx hb d_MC_isBlank_42 (by decide) (fun c_6 => ?_) (fun c_6 => ?_)
              · rw [if_pos c_6] at hF
                refine lv_iinc (v := (i3 + 1)) (lv' := [(3, .int (i3 + 1)), (4, .int (m_Row_get l1 i3)), (0, .ref a0), (2, .int i2)]) hx hb d_MC_isBlank_47 hl (k := 3) rfl rfl (by decide) rfl (fun ls hl => ?_)
                refine lv_goto (tgt := 2) hx hb d_MC_isBlank_50 (by decide) ?_
                exact ih2 i2 (i3 + 1)  _ _ _  (Nat.lt_of_lt_of_le (g_dec1 c_1) (Nat.le_of_lt_succ hn2)) hF hP hD hS (lv_sub hl [2, 3, 0] rfl)
              · rw [if_neg c_6] at hF
                refine lv_iconst (v := 0) hx hb d_MC_isBlank_45 (by decide) ?_
                exact hret 0 () _ _ _ _ d_MC_isBlank_46 rfl (hRES.symm.trans hF) hP hD hS
  have hF := hRES
  rw [m_MC_isBlank] at hF
  refine lv_iload_n hx hb d_MC_isBlank_0 rfl (lv_at hl 1 rfl) ?_
  refine lv_istore_n (lv' := [(3, .int p1), (0, .ref a0), (1, .int p1), (2, .int p2)]) hx hb d_MC_isBlank_1 rfl hl (by decide) rfl (fun ls hl => ?_)
  exact lp2 ((p2.toInt - p1.toInt).toNat + 1) p2 p1  _ _ _  (Nat.lt_succ_self _) hF hP hD hS (lv_sub hl [1, 3, 0] rfl)
theorem cw_MC_isBlank {R : Room} {s : State} {args : Array Value} {own : String} {idx : Nat} (hts : ∀ w ∈ gW, w.before args s = true) (hl : Cond.methodLink own idx y_MC_isBlank ∈ gW) (hR : rm_MC_isBlank.frames + 1 ≤ R.frames ∧ 8 + (5 + 11) + rm_MC_isBlank.locals ≤ R.locals) : CallW R s args own "MailCharacters" idx y_MC_isBlank b_MC_isBlank 5 (some .boolean) w_MC_isBlank rm_MC_isBlank 0 0 2 := cwV 2 hts (gW_V hl k_398 k_1 k_67 k_399) rfl rfl rfl (by decide +kernel) hR
def m_Reader_bytesBehind (p0 : Int32) : Int32 :=
  if p0 < 194 then
    0
  else
    if p0 ≤ 244 then
      if 224 ≤ p0 then
        if 240 ≤ p0 then
          3
        else
          2
      else
        1
    else
      0
def rm_Reader_bytesBehind : Room := { frames := 0, cells := 0, slots := 0, locals := 0 }
set_option maxHeartbeats 4000000 in
set_option maxRecDepth 100000 in
theorem c_Reader_bytesBehind (l : Launch) (D : va_G) (Z : gZT) (kI : ClassId) (sz : Nat) (p0 : Int32) : gMi l y_Reader_bytesBehind w_Reader_bytesBehind rm_Reader_bytesBehind D Z kI [.int p0] sz [] (fun (r : Int32) (_u : Unit) => m_Reader_bytesBehind p0 = r) (fun (_u : Unit) => ([] : va_W)) := by
  refine g_ofi (cc := b_Reader_bytesBehind) (maxL := 1) (ty := .int) (by decide) rfl (Nat.le_of_ble_eq_true rfl) ?_
  intro p e s m below meth c A Q H ls hx hb hml hown hts hA hK hZ hP hD hS hl hret
  have hown : s.vm.findClass "MailCharacters$Reader" = some m.cls := hown
  have hl : lv_has ls 1 [(0, .int p0)] := hl
  obtain ⟨RES, hRES⟩ : ∃ z, z = m_Reader_bytesBehind p0 := ⟨_, rfl⟩
  have hF := hRES
  rw [m_Reader_bytesBehind] at hF
  refine lv_iload_n hx hb d_Reader_bytesBehind_0 rfl (lv_at hl 0 rfl) ?_
  refine lv_sipush (v := 194) hx hb d_Reader_bytesBehind_1 (by decide) ?_
  refine lv_icmp_lt (tgt := 14) hx hb d_Reader_bytesBehind_4 (by decide) (fun c_1 => ?_) (fun c_1 => ?_)
  · rw [if_pos c_1] at hF
    refine lv_iconst (v := 0) hx hb d_Reader_bytesBehind_14 (by decide) ?_
    exact hret 0 () _ _ _ _ d_Reader_bytesBehind_15 rfl (hRES.symm.trans hF) hP hD hS
  · rw [if_neg c_1] at hF
    refine lv_iload_n hx hb d_Reader_bytesBehind_7 rfl (lv_at hl 0 rfl) ?_
    refine lv_sipush (v := 244) hx hb d_Reader_bytesBehind_8 (by decide) ?_
    refine lv_icmp_le (tgt := 16) hx hb d_Reader_bytesBehind_11 (by decide) (fun c_2 => ?_) (fun c_2 => ?_)
    · rw [if_pos c_2] at hF
      refine lv_iload_n hx hb d_Reader_bytesBehind_16 rfl (lv_at hl 0 rfl) ?_
      refine lv_sipush (v := 224) hx hb d_Reader_bytesBehind_17 (by decide) ?_
      refine lv_icmp_ge (tgt := 25) hx hb d_Reader_bytesBehind_20 (by decide) (fun c_3 => ?_) (fun c_3 => ?_)
      · rw [if_pos c_3] at hF
        refine lv_iload_n hx hb d_Reader_bytesBehind_25 rfl (lv_at hl 0 rfl) ?_
        refine lv_sipush (v := 240) hx hb d_Reader_bytesBehind_26 (by decide) ?_
        refine lv_icmp_ge (tgt := 36) hx hb d_Reader_bytesBehind_29 (by decide) (fun c_4 => ?_) (fun c_4 => ?_)
        · rw [if_pos c_4] at hF
          refine lv_iconst (v := 3) hx hb d_Reader_bytesBehind_36 (by decide) ?_
          exact hret 3 () _ _ _ _ d_Reader_bytesBehind_37 rfl (hRES.symm.trans hF) hP hD hS
        · rw [if_neg c_4] at hF
          refine lv_iconst (v := 2) hx hb d_Reader_bytesBehind_32 (by decide) ?_
          refine lv_goto (tgt := 37) hx hb d_Reader_bytesBehind_33 (by decide) ?_
          exact hret 2 () _ _ _ _ d_Reader_bytesBehind_37 rfl (hRES.symm.trans hF) hP hD hS
      · rw [if_neg c_3] at hF
        refine lv_iconst (v := 1) hx hb d_Reader_bytesBehind_23 (by decide) ?_
        exact hret 1 () _ _ _ _ d_Reader_bytesBehind_24 rfl (hRES.symm.trans hF) hP hD hS
    · rw [if_neg c_2] at hF
      refine lv_iconst (v := 0) hx hb d_Reader_bytesBehind_14 (by decide) ?_
      exact hret 0 () _ _ _ _ d_Reader_bytesBehind_15 rfl (hRES.symm.trans hF) hP hD hS
theorem cw_Reader_bytesBehind {R : Room} {s : State} {args : Array Value} {own : String} {idx : Nat} (hts : ∀ w ∈ gW, w.before args s = true) (hl : Cond.methodLink own idx y_Reader_bytesBehind ∈ gW) (hR : rm_Reader_bytesBehind.frames + 1 ≤ R.frames ∧ 8 + (1 + 11) + rm_Reader_bytesBehind.locals ≤ R.locals) : CallB R s args own idx y_Reader_bytesBehind b_Reader_bytesBehind 1 (some .int) w_Reader_bytesBehind rm_Reader_bytesBehind 0 0 1 ∧ (Cond.static y_Reader_bytesBehind).before args s = true := va_cwS 1 hts (gW_S hl k_412 k_74 k_413) rfl rfl rfl (by decide +kernel) hR
def m_Reader_lowestBehind (p0 : Int32) : Int32 :=
  if p0 = 224 then
    160
  else
    if p0 = 240 then
      144
    else
      128
def rm_Reader_lowestBehind : Room := { frames := 0, cells := 0, slots := 0, locals := 0 }
set_option maxHeartbeats 4000000 in
set_option maxRecDepth 100000 in
theorem c_Reader_lowestBehind (l : Launch) (D : va_G) (Z : gZT) (kI : ClassId) (sz : Nat) (p0 : Int32) : gMi l y_Reader_lowestBehind w_Reader_lowestBehind rm_Reader_lowestBehind D Z kI [.int p0] sz [] (fun (r : Int32) (_u : Unit) => m_Reader_lowestBehind p0 = r) (fun (_u : Unit) => ([] : va_W)) := by
  refine g_ofi (cc := b_Reader_lowestBehind) (maxL := 1) (ty := .int) (by decide) rfl (Nat.le_of_ble_eq_true rfl) ?_
  intro p e s m below meth c A Q H ls hx hb hml hown hts hA hK hZ hP hD hS hl hret
  have hown : s.vm.findClass "MailCharacters$Reader" = some m.cls := hown
  have hl : lv_has ls 1 [(0, .int p0)] := hl
  obtain ⟨RES, hRES⟩ : ∃ z, z = m_Reader_lowestBehind p0 := ⟨_, rfl⟩
  have hF := hRES
  rw [m_Reader_lowestBehind] at hF
  refine lv_iload_n hx hb d_Reader_lowestBehind_0 rfl (lv_at hl 0 rfl) ?_
  refine lv_sipush (v := 224) hx hb d_Reader_lowestBehind_1 (by decide) ?_
  refine lv_icmp_ne (tgt := 11) hx hb d_Reader_lowestBehind_4 (by decide) (fun c_1 => ?_) (fun c_1 => ?_)
  · rw [if_neg c_1] at hF
    refine lv_iload_n hx hb d_Reader_lowestBehind_11 rfl (lv_at hl 0 rfl) ?_
    refine lv_sipush (v := 240) hx hb d_Reader_lowestBehind_12 (by decide) ?_
    refine lv_icmp_ne (tgt := 24) hx hb d_Reader_lowestBehind_15 (by decide) (fun c_2 => ?_) (fun c_2 => ?_)
    · rw [if_neg c_2] at hF
      refine lv_sipush (v := 128) hx hb d_Reader_lowestBehind_24 (by decide) ?_
      exact hret 128 () _ _ _ _ d_Reader_lowestBehind_27 rfl (hRES.symm.trans hF) hP hD hS
    · rw [if_pos c_2] at hF
      refine lv_sipush (v := 144) hx hb d_Reader_lowestBehind_18 (by decide) ?_
      refine lv_goto (tgt := 27) hx hb d_Reader_lowestBehind_21 (by decide) ?_
      exact hret 144 () _ _ _ _ d_Reader_lowestBehind_27 rfl (hRES.symm.trans hF) hP hD hS
  · rw [if_pos c_1] at hF
    refine lv_sipush (v := 160) hx hb d_Reader_lowestBehind_7 (by decide) ?_
    exact hret 160 () _ _ _ _ d_Reader_lowestBehind_10 rfl (hRES.symm.trans hF) hP hD hS
theorem cw_Reader_lowestBehind {R : Room} {s : State} {args : Array Value} {own : String} {idx : Nat} (hts : ∀ w ∈ gW, w.before args s = true) (hl : Cond.methodLink own idx y_Reader_lowestBehind ∈ gW) (hR : rm_Reader_lowestBehind.frames + 1 ≤ R.frames ∧ 8 + (1 + 11) + rm_Reader_lowestBehind.locals ≤ R.locals) : CallB R s args own idx y_Reader_lowestBehind b_Reader_lowestBehind 1 (some .int) w_Reader_lowestBehind rm_Reader_lowestBehind 0 0 1 ∧ (Cond.static y_Reader_lowestBehind).before args s = true := va_cwS 1 hts (gW_S hl k_415 k_74 k_416) rfl rfl rfl (by decide +kernel) hR
def m_Reader_highestBehind (p0 : Int32) : Int32 :=
  if p0 = 237 then
    159
  else
    if p0 = 244 then
      143
    else
      191
def rm_Reader_highestBehind : Room := { frames := 0, cells := 0, slots := 0, locals := 0 }
set_option maxHeartbeats 4000000 in
set_option maxRecDepth 100000 in
theorem c_Reader_highestBehind (l : Launch) (D : va_G) (Z : gZT) (kI : ClassId) (sz : Nat) (p0 : Int32) : gMi l y_Reader_highestBehind w_Reader_highestBehind rm_Reader_highestBehind D Z kI [.int p0] sz [] (fun (r : Int32) (_u : Unit) => m_Reader_highestBehind p0 = r) (fun (_u : Unit) => ([] : va_W)) := by
  refine g_ofi (cc := b_Reader_highestBehind) (maxL := 1) (ty := .int) (by decide) rfl (Nat.le_of_ble_eq_true rfl) ?_
  intro p e s m below meth c A Q H ls hx hb hml hown hts hA hK hZ hP hD hS hl hret
  have hown : s.vm.findClass "MailCharacters$Reader" = some m.cls := hown
  have hl : lv_has ls 1 [(0, .int p0)] := hl
  obtain ⟨RES, hRES⟩ : ∃ z, z = m_Reader_highestBehind p0 := ⟨_, rfl⟩
  have hF := hRES
  rw [m_Reader_highestBehind] at hF
  refine lv_iload_n hx hb d_Reader_highestBehind_0 rfl (lv_at hl 0 rfl) ?_
  refine lv_sipush (v := 237) hx hb d_Reader_highestBehind_1 (by decide) ?_
  refine lv_icmp_ne (tgt := 11) hx hb d_Reader_highestBehind_4 (by decide) (fun c_1 => ?_) (fun c_1 => ?_)
  · rw [if_neg c_1] at hF
    refine lv_iload_n hx hb d_Reader_highestBehind_11 rfl (lv_at hl 0 rfl) ?_
    refine lv_sipush (v := 244) hx hb d_Reader_highestBehind_12 (by decide) ?_
    refine lv_icmp_ne (tgt := 24) hx hb d_Reader_highestBehind_15 (by decide) (fun c_2 => ?_) (fun c_2 => ?_)
    · rw [if_neg c_2] at hF
      refine lv_sipush (v := 191) hx hb d_Reader_highestBehind_24 (by decide) ?_
      exact hret 191 () _ _ _ _ d_Reader_highestBehind_27 rfl (hRES.symm.trans hF) hP hD hS
    · rw [if_pos c_2] at hF
      refine lv_sipush (v := 143) hx hb d_Reader_highestBehind_18 (by decide) ?_
      refine lv_goto (tgt := 27) hx hb d_Reader_highestBehind_21 (by decide) ?_
      exact hret 143 () _ _ _ _ d_Reader_highestBehind_27 rfl (hRES.symm.trans hF) hP hD hS
  · rw [if_pos c_1] at hF
    refine lv_sipush (v := 159) hx hb d_Reader_highestBehind_7 (by decide) ?_
    exact hret 159 () _ _ _ _ d_Reader_highestBehind_10 rfl (hRES.symm.trans hF) hP hD hS
theorem cw_Reader_highestBehind {R : Room} {s : State} {args : Array Value} {own : String} {idx : Nat} (hts : ∀ w ∈ gW, w.before args s = true) (hl : Cond.methodLink own idx y_Reader_highestBehind ∈ gW) (hR : rm_Reader_highestBehind.frames + 1 ≤ R.frames ∧ 8 + (1 + 11) + rm_Reader_highestBehind.locals ≤ R.locals) : CallB R s args own idx y_Reader_highestBehind b_Reader_highestBehind 1 (some .int) w_Reader_highestBehind rm_Reader_highestBehind 0 0 1 ∧ (Cond.static y_Reader_highestBehind).before args s = true := va_cwS 1 hts (gW_S hl k_418 k_74 k_419) rfl rfl rfl (by decide +kernel) hR
def m_Reader_endUnits (n1 : Nat) (v0_firstHalf : Int32) (l1 : List Int32) (o1 : Int32) : Int32 × List Int32 × Int32 :=
  if v0_firstHalf = 0 then
    (v0_firstHalf, l1, o1)
  else
    match (m_Row_put n1 l1 o1 65533) with
    | (l1_2, o1_2) =>
      (0, l1_2, o1_2)
def rm_Reader_endUnits : Room := { frames := 1, cells := 0, slots := 0, locals := 21 }
set_option maxHeartbeats 4000000 in
set_option maxRecDepth 100000 in
theorem c_Reader_endUnits (l : Launch) (D : va_G) (Z : gZT) (kI : ClassId) (a0 : Nat) (x0_bits : Nat) (a1 : Nat) (b1 : Nat) (n1 : Nat) (sz : Nat) (v0_firstHalf : Int32) (f1 : Nat → Int32) (l1 : List Int32) (o1 : Int32) (hr1 : g_rw n1 f1 l1) : gMv l y_Reader_endUnits w_Reader_endUnits rm_Reader_endUnits D Z kI [.ref a0, .ref a1] sz [(a0, .inr (3, [.ref x0_bits, .int v0_firstHalf])), (a1, .inr (4, [.ref b1, .int (nI l1.length), .int o1])), (b1, .inl (kI, n1, .inl f1))] (fun (u : Int32 × (Nat → Int32) × List Int32 × Int32) => m_Reader_endUnits n1 v0_firstHalf l1 o1 = (u.1, u.2.2.1, u.2.2.2) ∧ g_rw n1 u.2.1 u.2.2.1) (fun (u : Int32 × (Nat → Int32) × List Int32 × Int32) => ([(a0, .inr (3, [.ref x0_bits, .int u.1])), (a1, .inr (4, [.ref b1, .int (nI u.2.2.1.length), .int u.2.2.2])), (b1, .inl (kI, n1, .inl u.2.1))] : va_W)) := by
  refine g_ofv (cc := b_Reader_endUnits) (maxL := 2) (by decide) rfl (Nat.le_of_ble_eq_true rfl) ?_
  intro p e s m below meth c A Q H ls hx hb hml hown hts hA hK hZ hP hD hS hl hret
  have hown : s.vm.findClass "MailCharacters$Reader" = some m.cls := hown
  have hl : lv_has ls 2 [(0, .ref a0), (1, .ref a1)] := hl
  obtain ⟨RES, hRES⟩ : ∃ z, z = m_Reader_endUnits n1 v0_firstHalf l1 o1 := ⟨_, rfl⟩
  have hF := hRES
  rw [m_Reader_endUnits] at hF
  refine lv_aload_n hx hb d_Reader_endUnits_0 rfl (lv_at hl 0 rfl) ?_
  refine va_get (D := D) (ci := 3) (v := .int v0_firstHalf) (C := "MailCharacters$Reader") (T := F_Reader) (N := 2) hx hb hts i_Reader hown hK hP 0 rfl rfl 1 (by decide) (hts _ k_191) (fun _ h9 => h9) rfl d_Reader_endUnits_1 ?_
  refine lv_if_eq (tgt := 18) hx hb d_Reader_endUnits_4 (by decide) (fun c_1 => ?_) (fun c_1 => ?_)
  · rw [if_pos c_1] at hF
    exact hret (v0_firstHalf, f1, l1, o1) _ _ _ _ d_Reader_endUnits_18 (⟨hRES.symm.trans hF, hr1⟩) hP hD hS
  · rw [if_neg c_1] at hF
    refine lv_aload_n hx hb d_Reader_endUnits_7 rfl (lv_at hl 1 rfl) ?_
    refine lv_ldc hx hb hown (hts _ k_410) d_Reader_endUnits_8 ?_
    refine g_Vv (As := [.int 65533]) (rest := []) (wr := [(a0, .inr (3, [.ref x0_bits, .int v0_firstHalf]))]) ⟨hx, hb, hml, hown, hts⟩ (c_Row_put l D Z kI a1 b1 n1 H.size f1 l1 o1 65533 hr1) (cw_Row_put hts k_409 ⟨Nat.le_of_ble_eq_true rfl, Nat.le_of_ble_eq_true rfl⟩) hK hZ hP hD hS hA [1, 2] [0] (g_recv hK hP (ci := 4) (q0 := 1) rfl rfl) rfl rfl (by decide) (by decide) (by decide) rfl hl.1 rfl (Nat.le_of_ble_eq_true rfl) d_Reader_endUnits_10 ⟨Nat.zero_le _, Nat.zero_le _⟩ (fun u_2 H locs hw hP hD hS => ?_)
    obtain ⟨f1_2, l1_2, o1_2⟩ := u_2
    have e_2 := hw.1
    have hr1_2 := hw.2
    have hP : va_P D vwCl [(a0, .inr (3, [.ref x0_bits, .int v0_firstHalf])), (a1, .inr (4, [.ref b1, .int (nI l1_2.length), .int o1_2])), (b1, .inl (kI, n1, .inl f1_2))] H := hP
    have hD : va_D A [(a0, .inr (3, [.ref x0_bits, .int v0_firstHalf])), (a1, .inr (4, [.ref b1, .int (nI l1_2.length), .int o1_2])), (b1, .inl (kI, n1, .inl f1_2))] := hD
    rw [e_2] at hF; dsimp only at hF
    refine lv_aload_n hx hb d_Reader_endUnits_13 rfl (lv_at hl 0 rfl) ?_
    refine lv_iconst (v := 0) hx hb d_Reader_endUnits_14 (by decide) ?_
    refine va_put (D := D) (ci := 3) (v := .int 0) (ty := .int) (C := "MailCharacters$Reader") (T := F_Reader) (N := 2) hx hb hts i_Reader t_Reader t_Reader_ok n_Reader hown hK hP hD hS 0 rfl rfl 1 (by decide) (hts _ k_191) (fun _ h9 => h9) rfl (by decide +kernel) rfl rfl (Nat.le_of_ble_eq_true rfl) d_Reader_endUnits_15 (fun H locs hP hD hS => ?_)
    have hP : va_P D vwCl [(a0, .inr (3, [.ref x0_bits, .int 0])), (a1, .inr (4, [.ref b1, .int (nI l1_2.length), .int o1_2])), (b1, .inl (kI, n1, .inl f1_2))] H := hP
    have hD : va_D A [(a0, .inr (3, [.ref x0_bits, .int 0])), (a1, .inr (4, [.ref b1, .int (nI l1_2.length), .int o1_2])), (b1, .inl (kI, n1, .inl f1_2))] := hD
    exact hret (0, f1_2, l1_2, o1_2) _ _ _ _ d_Reader_endUnits_18 (⟨hRES.symm.trans hF, hr1_2⟩) hP hD hS
theorem cw_Reader_endUnits {R : Room} {s : State} {args : Array Value} {own : String} {idx : Nat} (hts : ∀ w ∈ gW, w.before args s = true) (hl : Cond.methodLink own idx y_Reader_endUnits ∈ gW) (hR : rm_Reader_endUnits.frames + 1 ≤ R.frames ∧ 8 + (2 + 11) + rm_Reader_endUnits.locals ≤ R.locals) : CallW R s args own "MailCharacters$Reader" idx y_Reader_endUnits b_Reader_endUnits 2 none w_Reader_endUnits rm_Reader_endUnits 0 0 1 := cwV 1 hts (gW_V hl k_438 k_5 k_74 k_439) rfl rfl rfl (by decide +kernel) hR
def m_Letters_sixBitsOf (p0 : Int32) : Int32 :=
  if p0 < 65 then
    if p0 < 97 then
      if p0 < 48 then
        if p0 = 43 then
          62
        else
          if p0 = 47 then
            63
          else
            (-1)
      else
        if 57 < p0 then
          if p0 = 43 then
            62
          else
            if p0 = 47 then
              63
            else
              (-1)
        else
          ((p0 - 48) + 52)
    else
      if 122 < p0 then
        if p0 < 48 then
          if p0 = 43 then
            62
          else
            if p0 = 47 then
              63
            else
              (-1)
        else
          if 57 < p0 then
            if p0 = 43 then
              62
            else
              if p0 = 47 then
                63
              else
                (-1)
          else
            ((p0 - 48) + 52)
      else
        ((p0 - 97) + 26)
  else
    if 90 < p0 then
      if p0 < 97 then
        if p0 < 48 then
          if p0 = 43 then
            62
          else
            if p0 = 47 then
              63
            else
              (-1)
        else
          if 57 < p0 then
            if p0 = 43 then
              62
            else
              if p0 = 47 then
                63
              else
                (-1)
          else
            ((p0 - 48) + 52)
      else
        if 122 < p0 then
          if p0 < 48 then
            if p0 = 43 then
              62
            else
              if p0 = 47 then
                63
              else
                (-1)
          else
            if 57 < p0 then
              if p0 = 43 then
                62
              else
                if p0 = 47 then
                  63
                else
                  (-1)
            else
              ((p0 - 48) + 52)
        else
          ((p0 - 97) + 26)
    else
      (p0 - 65)
def rm_Letters_sixBitsOf : Room := { frames := 0, cells := 0, slots := 0, locals := 0 }
set_option maxHeartbeats 4000000 in
set_option maxRecDepth 100000 in
theorem c_Letters_sixBitsOf (l : Launch) (D : va_G) (Z : gZT) (kI : ClassId) (sz : Nat) (p0 : Int32) : gMi l y_Letters_sixBitsOf w_Letters_sixBitsOf rm_Letters_sixBitsOf D Z kI [.int p0] sz [] (fun (r : Int32) (_u : Unit) => m_Letters_sixBitsOf p0 = r) (fun (_u : Unit) => ([] : va_W)) := by
  refine g_ofi (cc := b_Letters_sixBitsOf) (maxL := 1) (ty := .int) (by decide) rfl (Nat.le_of_ble_eq_true rfl) ?_
  intro p e s m below meth c A Q H ls hx hb hml hown hts hA hK hZ hP hD hS hl hret
  have hown : s.vm.findClass "MailCharacters$Letters" = some m.cls := hown
  have hl : lv_has ls 1 [(0, .int p0)] := hl
  obtain ⟨RES, hRES⟩ : ∃ z, z = m_Letters_sixBitsOf p0 := ⟨_, rfl⟩
  have hF := hRES
  rw [m_Letters_sixBitsOf] at hF
  refine lv_iload_n hx hb d_Letters_sixBitsOf_0 rfl (lv_at hl 0 rfl) ?_
  refine lv_bipush (v := 65) hx hb d_Letters_sixBitsOf_1 (by decide) ?_
  refine lv_icmp_lt (tgt := 17) hx hb d_Letters_sixBitsOf_3 (by decide) (fun c_1 => ?_) (fun c_1 => ?_)
  · rw [if_pos c_1] at hF
    refine lv_iload_n hx hb d_Letters_sixBitsOf_17 rfl (lv_at hl 0 rfl) ?_
    refine lv_bipush (v := 97) hx hb d_Letters_sixBitsOf_18 (by decide) ?_
    refine lv_icmp_lt (tgt := 37) hx hb d_Letters_sixBitsOf_20 (by decide) (fun c_2 => ?_) (fun c_2 => ?_)
    · rw [if_pos c_2] at hF
      refine lv_iload_n hx hb d_Letters_sixBitsOf_37 rfl (lv_at hl 0 rfl) ?_
      refine lv_bipush (v := 48) hx hb d_Letters_sixBitsOf_38 (by decide) ?_
      refine lv_icmp_lt (tgt := 57) hx hb d_Letters_sixBitsOf_40 (by decide) (fun c_3 => ?_) (fun c_3 => ?_)
      · rw [if_pos c_3] at hF
        refine lv_iload_n hx hb d_Letters_sixBitsOf_57 rfl (lv_at hl 0 rfl) ?_
        refine lv_bipush (v := 43) hx hb d_Letters_sixBitsOf_58 (by decide) ?_
        refine lv_icmp_ne (tgt := 66) hx hb d_Letters_sixBitsOf_60 (by decide) (fun c_4 => ?_) (fun c_4 => ?_)
        · rw [if_neg c_4] at hF
          refine lv_iload_n hx hb d_Letters_sixBitsOf_66 rfl (lv_at hl 0 rfl) ?_
          refine lv_bipush (v := 47) hx hb d_Letters_sixBitsOf_67 (by decide) ?_
          refine lv_icmp_ne (tgt := 77) hx hb d_Letters_sixBitsOf_69 (by decide) (fun c_5 => ?_) (fun c_5 => ?_)
          · rw [if_neg c_5] at hF
            refine lv_iconst (v := (-1)) hx hb d_Letters_sixBitsOf_77 (by decide) ?_
            exact hret (-1) () _ _ _ _ d_Letters_sixBitsOf_78 rfl (hRES.symm.trans hF) hP hD hS
          · rw [if_pos c_5] at hF
            refine lv_bipush (v := 63) hx hb d_Letters_sixBitsOf_72 (by decide) ?_
            refine lv_goto (tgt := 78) hx hb d_Letters_sixBitsOf_74 (by decide) ?_
            exact hret 63 () _ _ _ _ d_Letters_sixBitsOf_78 rfl (hRES.symm.trans hF) hP hD hS
        · rw [if_pos c_4] at hF
          refine lv_bipush (v := 62) hx hb d_Letters_sixBitsOf_63 (by decide) ?_
          exact hret 62 () _ _ _ _ d_Letters_sixBitsOf_65 rfl (hRES.symm.trans hF) hP hD hS
      · rw [if_neg c_3] at hF
        refine lv_iload_n hx hb d_Letters_sixBitsOf_43 rfl (lv_at hl 0 rfl) ?_
        refine lv_bipush (v := 57) hx hb d_Letters_sixBitsOf_44 (by decide) ?_
        refine lv_icmp_gt (tgt := 57) hx hb d_Letters_sixBitsOf_46 (by decide) (fun c_6 => ?_) (fun c_6 => ?_)
        · rw [if_pos c_6] at hF
          refine lv_iload_n hx hb d_Letters_sixBitsOf_57 rfl (lv_at hl 0 rfl) ?_
          refine lv_bipush (v := 43) hx hb d_Letters_sixBitsOf_58 (by decide) ?_
          refine lv_icmp_ne (tgt := 66) hx hb d_Letters_sixBitsOf_60 (by decide) (fun c_7 => ?_) (fun c_7 => ?_)
          · rw [if_neg c_7] at hF
            refine lv_iload_n hx hb d_Letters_sixBitsOf_66 rfl (lv_at hl 0 rfl) ?_
            refine lv_bipush (v := 47) hx hb d_Letters_sixBitsOf_67 (by decide) ?_
            refine lv_icmp_ne (tgt := 77) hx hb d_Letters_sixBitsOf_69 (by decide) (fun c_8 => ?_) (fun c_8 => ?_)
            · rw [if_neg c_8] at hF
              refine lv_iconst (v := (-1)) hx hb d_Letters_sixBitsOf_77 (by decide) ?_
              exact hret (-1) () _ _ _ _ d_Letters_sixBitsOf_78 rfl (hRES.symm.trans hF) hP hD hS
            · rw [if_pos c_8] at hF
              refine lv_bipush (v := 63) hx hb d_Letters_sixBitsOf_72 (by decide) ?_
              refine lv_goto (tgt := 78) hx hb d_Letters_sixBitsOf_74 (by decide) ?_
              exact hret 63 () _ _ _ _ d_Letters_sixBitsOf_78 rfl (hRES.symm.trans hF) hP hD hS
          · rw [if_pos c_7] at hF
            refine lv_bipush (v := 62) hx hb d_Letters_sixBitsOf_63 (by decide) ?_
            exact hret 62 () _ _ _ _ d_Letters_sixBitsOf_65 rfl (hRES.symm.trans hF) hP hD hS
        · rw [if_neg c_6] at hF
          refine lv_iload_n hx hb d_Letters_sixBitsOf_49 rfl (lv_at hl 0 rfl) ?_
          refine lv_bipush (v := 48) hx hb d_Letters_sixBitsOf_50 (by decide) ?_
          refine lv_isub hx hb d_Letters_sixBitsOf_52 ?_
          refine lv_bipush (v := 52) hx hb d_Letters_sixBitsOf_53 (by decide) ?_
          refine lv_iadd hx hb d_Letters_sixBitsOf_55 ?_
          exact hret ((p0 - 48) + 52) () _ _ _ _ d_Letters_sixBitsOf_56 rfl (hRES.symm.trans hF) hP hD hS
    · rw [if_neg c_2] at hF
      refine lv_iload_n hx hb d_Letters_sixBitsOf_23 rfl (lv_at hl 0 rfl) ?_
      refine lv_bipush (v := 122) hx hb d_Letters_sixBitsOf_24 (by decide) ?_
      refine lv_icmp_gt (tgt := 37) hx hb d_Letters_sixBitsOf_26 (by decide) (fun c_9 => ?_) (fun c_9 => ?_)
      · rw [if_pos c_9] at hF
        refine lv_iload_n hx hb d_Letters_sixBitsOf_37 rfl (lv_at hl 0 rfl) ?_
        refine lv_bipush (v := 48) hx hb d_Letters_sixBitsOf_38 (by decide) ?_
        refine lv_icmp_lt (tgt := 57) hx hb d_Letters_sixBitsOf_40 (by decide) (fun c_10 => ?_) (fun c_10 => ?_)
        · rw [if_pos c_10] at hF
          refine lv_iload_n hx hb d_Letters_sixBitsOf_57 rfl (lv_at hl 0 rfl) ?_
          refine lv_bipush (v := 43) hx hb d_Letters_sixBitsOf_58 (by decide) ?_
          refine lv_icmp_ne (tgt := 66) hx hb d_Letters_sixBitsOf_60 (by decide) (fun c_11 => ?_) (fun c_11 => ?_)
          · rw [if_neg c_11] at hF
            refine lv_iload_n hx hb d_Letters_sixBitsOf_66 rfl (lv_at hl 0 rfl) ?_
            refine lv_bipush (v := 47) hx hb d_Letters_sixBitsOf_67 (by decide) ?_
            refine lv_icmp_ne (tgt := 77) hx hb d_Letters_sixBitsOf_69 (by decide) (fun c_12 => ?_) (fun c_12 => ?_)
            · rw [if_neg c_12] at hF
              refine lv_iconst (v := (-1)) hx hb d_Letters_sixBitsOf_77 (by decide) ?_
              exact hret (-1) () _ _ _ _ d_Letters_sixBitsOf_78 rfl (hRES.symm.trans hF) hP hD hS
            · rw [if_pos c_12] at hF
              refine lv_bipush (v := 63) hx hb d_Letters_sixBitsOf_72 (by decide) ?_
              refine lv_goto (tgt := 78) hx hb d_Letters_sixBitsOf_74 (by decide) ?_
              exact hret 63 () _ _ _ _ d_Letters_sixBitsOf_78 rfl (hRES.symm.trans hF) hP hD hS
          · rw [if_pos c_11] at hF
            refine lv_bipush (v := 62) hx hb d_Letters_sixBitsOf_63 (by decide) ?_
            exact hret 62 () _ _ _ _ d_Letters_sixBitsOf_65 rfl (hRES.symm.trans hF) hP hD hS
        · rw [if_neg c_10] at hF
          refine lv_iload_n hx hb d_Letters_sixBitsOf_43 rfl (lv_at hl 0 rfl) ?_
          refine lv_bipush (v := 57) hx hb d_Letters_sixBitsOf_44 (by decide) ?_
          refine lv_icmp_gt (tgt := 57) hx hb d_Letters_sixBitsOf_46 (by decide) (fun c_13 => ?_) (fun c_13 => ?_)
          · rw [if_pos c_13] at hF
            refine lv_iload_n hx hb d_Letters_sixBitsOf_57 rfl (lv_at hl 0 rfl) ?_
            refine lv_bipush (v := 43) hx hb d_Letters_sixBitsOf_58 (by decide) ?_
            refine lv_icmp_ne (tgt := 66) hx hb d_Letters_sixBitsOf_60 (by decide) (fun c_14 => ?_) (fun c_14 => ?_)
            · rw [if_neg c_14] at hF
              refine lv_iload_n hx hb d_Letters_sixBitsOf_66 rfl (lv_at hl 0 rfl) ?_
              refine lv_bipush (v := 47) hx hb d_Letters_sixBitsOf_67 (by decide) ?_
              refine lv_icmp_ne (tgt := 77) hx hb d_Letters_sixBitsOf_69 (by decide) (fun c_15 => ?_) (fun c_15 => ?_)
              · rw [if_neg c_15] at hF
                refine lv_iconst (v := (-1)) hx hb d_Letters_sixBitsOf_77 (by decide) ?_
                exact hret (-1) () _ _ _ _ d_Letters_sixBitsOf_78 rfl (hRES.symm.trans hF) hP hD hS
              · rw [if_pos c_15] at hF
                refine lv_bipush (v := 63) hx hb d_Letters_sixBitsOf_72 (by decide) ?_
                refine lv_goto (tgt := 78) hx hb d_Letters_sixBitsOf_74 (by decide) ?_
                exact hret 63 () _ _ _ _ d_Letters_sixBitsOf_78 rfl (hRES.symm.trans hF) hP hD hS
            · rw [if_pos c_14] at hF
              refine lv_bipush (v := 62) hx hb d_Letters_sixBitsOf_63 (by decide) ?_
              exact hret 62 () _ _ _ _ d_Letters_sixBitsOf_65 rfl (hRES.symm.trans hF) hP hD hS
          · rw [if_neg c_13] at hF
            refine lv_iload_n hx hb d_Letters_sixBitsOf_49 rfl (lv_at hl 0 rfl) ?_
            refine lv_bipush (v := 48) hx hb d_Letters_sixBitsOf_50 (by decide) ?_
            refine lv_isub hx hb d_Letters_sixBitsOf_52 ?_
            refine lv_bipush (v := 52) hx hb d_Letters_sixBitsOf_53 (by decide) ?_
            refine lv_iadd hx hb d_Letters_sixBitsOf_55 ?_
            exact hret ((p0 - 48) + 52) () _ _ _ _ d_Letters_sixBitsOf_56 rfl (hRES.symm.trans hF) hP hD hS
      · rw [if_neg c_9] at hF
        refine lv_iload_n hx hb d_Letters_sixBitsOf_29 rfl (lv_at hl 0 rfl) ?_
        refine lv_bipush (v := 97) hx hb d_Letters_sixBitsOf_30 (by decide) ?_
        refine lv_isub hx hb d_Letters_sixBitsOf_32 ?_
        refine lv_bipush (v := 26) hx hb d_Letters_sixBitsOf_33 (by decide) ?_
        refine lv_iadd hx hb d_Letters_sixBitsOf_35 ?_
        exact hret ((p0 - 97) + 26) () _ _ _ _ d_Letters_sixBitsOf_36 rfl (hRES.symm.trans hF) hP hD hS
  · rw [if_neg c_1] at hF
    refine lv_iload_n hx hb d_Letters_sixBitsOf_6 rfl (lv_at hl 0 rfl) ?_
    refine lv_bipush (v := 90) hx hb d_Letters_sixBitsOf_7 (by decide) ?_
    refine lv_icmp_gt (tgt := 17) hx hb d_Letters_sixBitsOf_9 (by decide) (fun c_16 => ?_) (fun c_16 => ?_)
    · rw [if_pos c_16] at hF
      refine lv_iload_n hx hb d_Letters_sixBitsOf_17 rfl (lv_at hl 0 rfl) ?_
      refine lv_bipush (v := 97) hx hb d_Letters_sixBitsOf_18 (by decide) ?_
      refine lv_icmp_lt (tgt := 37) hx hb d_Letters_sixBitsOf_20 (by decide) (fun c_17 => ?_) (fun c_17 => ?_)
      · rw [if_pos c_17] at hF
        refine lv_iload_n hx hb d_Letters_sixBitsOf_37 rfl (lv_at hl 0 rfl) ?_
        refine lv_bipush (v := 48) hx hb d_Letters_sixBitsOf_38 (by decide) ?_
        refine lv_icmp_lt (tgt := 57) hx hb d_Letters_sixBitsOf_40 (by decide) (fun c_18 => ?_) (fun c_18 => ?_)
        · rw [if_pos c_18] at hF
          refine lv_iload_n hx hb d_Letters_sixBitsOf_57 rfl (lv_at hl 0 rfl) ?_
          refine lv_bipush (v := 43) hx hb d_Letters_sixBitsOf_58 (by decide) ?_
          refine lv_icmp_ne (tgt := 66) hx hb d_Letters_sixBitsOf_60 (by decide) (fun c_19 => ?_) (fun c_19 => ?_)
          · rw [if_neg c_19] at hF
            refine lv_iload_n hx hb d_Letters_sixBitsOf_66 rfl (lv_at hl 0 rfl) ?_
            refine lv_bipush (v := 47) hx hb d_Letters_sixBitsOf_67 (by decide) ?_
            refine lv_icmp_ne (tgt := 77) hx hb d_Letters_sixBitsOf_69 (by decide) (fun c_20 => ?_) (fun c_20 => ?_)
            · rw [if_neg c_20] at hF
              refine lv_iconst (v := (-1)) hx hb d_Letters_sixBitsOf_77 (by decide) ?_
              exact hret (-1) () _ _ _ _ d_Letters_sixBitsOf_78 rfl (hRES.symm.trans hF) hP hD hS
            · rw [if_pos c_20] at hF
              refine lv_bipush (v := 63) hx hb d_Letters_sixBitsOf_72 (by decide) ?_
              refine lv_goto (tgt := 78) hx hb d_Letters_sixBitsOf_74 (by decide) ?_
              exact hret 63 () _ _ _ _ d_Letters_sixBitsOf_78 rfl (hRES.symm.trans hF) hP hD hS
          · rw [if_pos c_19] at hF
            refine lv_bipush (v := 62) hx hb d_Letters_sixBitsOf_63 (by decide) ?_
            exact hret 62 () _ _ _ _ d_Letters_sixBitsOf_65 rfl (hRES.symm.trans hF) hP hD hS
        · rw [if_neg c_18] at hF
          refine lv_iload_n hx hb d_Letters_sixBitsOf_43 rfl (lv_at hl 0 rfl) ?_
          refine lv_bipush (v := 57) hx hb d_Letters_sixBitsOf_44 (by decide) ?_
          refine lv_icmp_gt (tgt := 57) hx hb d_Letters_sixBitsOf_46 (by decide) (fun c_21 => ?_) (fun c_21 => ?_)
          · rw [if_pos c_21] at hF
            refine lv_iload_n hx hb d_Letters_sixBitsOf_57 rfl (lv_at hl 0 rfl) ?_
            refine lv_bipush (v := 43) hx hb d_Letters_sixBitsOf_58 (by decide) ?_
            refine lv_icmp_ne (tgt := 66) hx hb d_Letters_sixBitsOf_60 (by decide) (fun c_22 => ?_) (fun c_22 => ?_)
            · rw [if_neg c_22] at hF
              refine lv_iload_n hx hb d_Letters_sixBitsOf_66 rfl (lv_at hl 0 rfl) ?_
              refine lv_bipush (v := 47) hx hb d_Letters_sixBitsOf_67 (by decide) ?_
              refine lv_icmp_ne (tgt := 77) hx hb d_Letters_sixBitsOf_69 (by decide) (fun c_23 => ?_) (fun c_23 => ?_)
              · rw [if_neg c_23] at hF
                refine lv_iconst (v := (-1)) hx hb d_Letters_sixBitsOf_77 (by decide) ?_
                exact hret (-1) () _ _ _ _ d_Letters_sixBitsOf_78 rfl (hRES.symm.trans hF) hP hD hS
              · rw [if_pos c_23] at hF
                refine lv_bipush (v := 63) hx hb d_Letters_sixBitsOf_72 (by decide) ?_
                refine lv_goto (tgt := 78) hx hb d_Letters_sixBitsOf_74 (by decide) ?_
                exact hret 63 () _ _ _ _ d_Letters_sixBitsOf_78 rfl (hRES.symm.trans hF) hP hD hS
            · rw [if_pos c_22] at hF
              refine lv_bipush (v := 62) hx hb d_Letters_sixBitsOf_63 (by decide) ?_
              exact hret 62 () _ _ _ _ d_Letters_sixBitsOf_65 rfl (hRES.symm.trans hF) hP hD hS
          · rw [if_neg c_21] at hF
            refine lv_iload_n hx hb d_Letters_sixBitsOf_49 rfl (lv_at hl 0 rfl) ?_
            refine lv_bipush (v := 48) hx hb d_Letters_sixBitsOf_50 (by decide) ?_
            refine lv_isub hx hb d_Letters_sixBitsOf_52 ?_
            refine lv_bipush (v := 52) hx hb d_Letters_sixBitsOf_53 (by decide) ?_
            refine lv_iadd hx hb d_Letters_sixBitsOf_55 ?_
            exact hret ((p0 - 48) + 52) () _ _ _ _ d_Letters_sixBitsOf_56 rfl (hRES.symm.trans hF) hP hD hS
      · rw [if_neg c_17] at hF
        refine lv_iload_n hx hb d_Letters_sixBitsOf_23 rfl (lv_at hl 0 rfl) ?_
        refine lv_bipush (v := 122) hx hb d_Letters_sixBitsOf_24 (by decide) ?_
        refine lv_icmp_gt (tgt := 37) hx hb d_Letters_sixBitsOf_26 (by decide) (fun c_24 => ?_) (fun c_24 => ?_)
        · rw [if_pos c_24] at hF
          refine lv_iload_n hx hb d_Letters_sixBitsOf_37 rfl (lv_at hl 0 rfl) ?_
          refine lv_bipush (v := 48) hx hb d_Letters_sixBitsOf_38 (by decide) ?_
          refine lv_icmp_lt (tgt := 57) hx hb d_Letters_sixBitsOf_40 (by decide) (fun c_25 => ?_) (fun c_25 => ?_)
          · rw [if_pos c_25] at hF
            refine lv_iload_n hx hb d_Letters_sixBitsOf_57 rfl (lv_at hl 0 rfl) ?_
            refine lv_bipush (v := 43) hx hb d_Letters_sixBitsOf_58 (by decide) ?_
            refine lv_icmp_ne (tgt := 66) hx hb d_Letters_sixBitsOf_60 (by decide) (fun c_26 => ?_) (fun c_26 => ?_)
            · rw [if_neg c_26] at hF
              refine lv_iload_n hx hb d_Letters_sixBitsOf_66 rfl (lv_at hl 0 rfl) ?_
              refine lv_bipush (v := 47) hx hb d_Letters_sixBitsOf_67 (by decide) ?_
              refine lv_icmp_ne (tgt := 77) hx hb d_Letters_sixBitsOf_69 (by decide) (fun c_27 => ?_) (fun c_27 => ?_)
              · rw [if_neg c_27] at hF
                refine lv_iconst (v := (-1)) hx hb d_Letters_sixBitsOf_77 (by decide) ?_
                exact hret (-1) () _ _ _ _ d_Letters_sixBitsOf_78 rfl (hRES.symm.trans hF) hP hD hS
              · rw [if_pos c_27] at hF
                refine lv_bipush (v := 63) hx hb d_Letters_sixBitsOf_72 (by decide) ?_
                refine lv_goto (tgt := 78) hx hb d_Letters_sixBitsOf_74 (by decide) ?_
                exact hret 63 () _ _ _ _ d_Letters_sixBitsOf_78 rfl (hRES.symm.trans hF) hP hD hS
            · rw [if_pos c_26] at hF
              refine lv_bipush (v := 62) hx hb d_Letters_sixBitsOf_63 (by decide) ?_
              exact hret 62 () _ _ _ _ d_Letters_sixBitsOf_65 rfl (hRES.symm.trans hF) hP hD hS
          · rw [if_neg c_25] at hF
            refine lv_iload_n hx hb d_Letters_sixBitsOf_43 rfl (lv_at hl 0 rfl) ?_
            refine lv_bipush (v := 57) hx hb d_Letters_sixBitsOf_44 (by decide) ?_
            refine lv_icmp_gt (tgt := 57) hx hb d_Letters_sixBitsOf_46 (by decide) (fun c_28 => ?_) (fun c_28 => ?_)
            · rw [if_pos c_28] at hF
              refine lv_iload_n hx hb d_Letters_sixBitsOf_57 rfl (lv_at hl 0 rfl) ?_
              refine lv_bipush (v := 43) hx hb d_Letters_sixBitsOf_58 (by decide) ?_
              refine lv_icmp_ne (tgt := 66) hx hb d_Letters_sixBitsOf_60 (by decide) (fun c_29 => ?_) (fun c_29 => ?_)
              · rw [if_neg c_29] at hF
                refine lv_iload_n hx hb d_Letters_sixBitsOf_66 rfl (lv_at hl 0 rfl) ?_
                refine lv_bipush (v := 47) hx hb d_Letters_sixBitsOf_67 (by decide) ?_
                refine lv_icmp_ne (tgt := 77) hx hb d_Letters_sixBitsOf_69 (by decide) (fun c_30 => ?_) (fun c_30 => ?_)
                · rw [if_neg c_30] at hF
                  refine lv_iconst (v := (-1)) hx hb d_Letters_sixBitsOf_77 (by decide) ?_
                  exact hret (-1) () _ _ _ _ d_Letters_sixBitsOf_78 rfl (hRES.symm.trans hF) hP hD hS
                · rw [if_pos c_30] at hF
                  refine lv_bipush (v := 63) hx hb d_Letters_sixBitsOf_72 (by decide) ?_
                  refine lv_goto (tgt := 78) hx hb d_Letters_sixBitsOf_74 (by decide) ?_
                  exact hret 63 () _ _ _ _ d_Letters_sixBitsOf_78 rfl (hRES.symm.trans hF) hP hD hS
              · rw [if_pos c_29] at hF
                refine lv_bipush (v := 62) hx hb d_Letters_sixBitsOf_63 (by decide) ?_
                exact hret 62 () _ _ _ _ d_Letters_sixBitsOf_65 rfl (hRES.symm.trans hF) hP hD hS
            · rw [if_neg c_28] at hF
              refine lv_iload_n hx hb d_Letters_sixBitsOf_49 rfl (lv_at hl 0 rfl) ?_
              refine lv_bipush (v := 48) hx hb d_Letters_sixBitsOf_50 (by decide) ?_
              refine lv_isub hx hb d_Letters_sixBitsOf_52 ?_
              refine lv_bipush (v := 52) hx hb d_Letters_sixBitsOf_53 (by decide) ?_
              refine lv_iadd hx hb d_Letters_sixBitsOf_55 ?_
              exact hret ((p0 - 48) + 52) () _ _ _ _ d_Letters_sixBitsOf_56 rfl (hRES.symm.trans hF) hP hD hS
        · rw [if_neg c_24] at hF
          refine lv_iload_n hx hb d_Letters_sixBitsOf_29 rfl (lv_at hl 0 rfl) ?_
          refine lv_bipush (v := 97) hx hb d_Letters_sixBitsOf_30 (by decide) ?_
          refine lv_isub hx hb d_Letters_sixBitsOf_32 ?_
          refine lv_bipush (v := 26) hx hb d_Letters_sixBitsOf_33 (by decide) ?_
          refine lv_iadd hx hb d_Letters_sixBitsOf_35 ?_
          exact hret ((p0 - 97) + 26) () _ _ _ _ d_Letters_sixBitsOf_36 rfl (hRES.symm.trans hF) hP hD hS
    · rw [if_neg c_16] at hF
      refine lv_iload_n hx hb d_Letters_sixBitsOf_12 rfl (lv_at hl 0 rfl) ?_
      refine lv_bipush (v := 65) hx hb d_Letters_sixBitsOf_13 (by decide) ?_
      refine lv_isub hx hb d_Letters_sixBitsOf_15 ?_
      exact hret (p0 - 65) () _ _ _ _ d_Letters_sixBitsOf_16 rfl (hRES.symm.trans hF) hP hD hS
theorem cw_Letters_sixBitsOf {R : Room} {s : State} {args : Array Value} {own : String} {idx : Nat} (hts : ∀ w ∈ gW, w.before args s = true) (hl : Cond.methodLink own idx y_Letters_sixBitsOf ∈ gW) (hR : rm_Letters_sixBitsOf.frames + 1 ≤ R.frames ∧ 8 + (1 + 11) + rm_Letters_sixBitsOf.locals ≤ R.locals) : CallB R s args own idx y_Letters_sixBitsOf b_Letters_sixBitsOf 1 (some .int) w_Letters_sixBitsOf rm_Letters_sixBitsOf 0 0 1 ∧ (Cond.static y_Letters_sixBitsOf).before args s = true := va_cwS 1 hts (gW_S hl k_446 k_87 k_447) rfl rfl rfl (by decide +kernel) hR
def m_Bits_add (v0_value : Int32) (v0_held : Int32) (p1 : Int32) (p2 : Int32) : Int32 × Int32 :=
  (((v0_value <<< (p2 &&& 31)) ||| p1), (v0_held + p2))
def rm_Bits_add : Room := { frames := 0, cells := 0, slots := 0, locals := 0 }
set_option maxHeartbeats 4000000 in
set_option maxRecDepth 100000 in
theorem c_Bits_add (l : Launch) (D : va_G) (Z : gZT) (kI : ClassId) (a0 : Nat) (sz : Nat) (v0_value : Int32) (v0_held : Int32) (p1 : Int32) (p2 : Int32) : gMv l y_Bits_add w_Bits_add rm_Bits_add D Z kI [.ref a0, .int p1, .int p2] sz [(a0, .inr (0, [.int v0_value, .int v0_held]))] (fun (u : Int32 × Int32) => m_Bits_add v0_value v0_held p1 p2 = (u.1, u.2)) (fun (u : Int32 × Int32) => ([(a0, .inr (0, [.int u.1, .int u.2]))] : va_W)) := by
  refine g_ofv (cc := b_Bits_add) (maxL := 3) (by decide) rfl (Nat.le_of_ble_eq_true rfl) ?_
  intro p e s m below meth c A Q H ls hx hb hml hown hts hA hK hZ hP hD hS hl hret
  have hown : s.vm.findClass "MailCharacters$Bits" = some m.cls := hown
  have hl : lv_has ls 3 [(0, .ref a0), (1, .int p1), (2, .int p2)] := hl
  obtain ⟨RES, hRES⟩ : ∃ z, z = m_Bits_add v0_value v0_held p1 p2 := ⟨_, rfl⟩
  have hF := hRES
  rw [m_Bits_add] at hF
  refine lv_aload_n hx hb d_Bits_add_0 rfl (lv_at hl 0 rfl) ?_
  refine lv_aload_n hx hb d_Bits_add_1 rfl (lv_at hl 0 rfl) ?_
  refine va_get (D := D) (ci := 0) (v := .int v0_value) (C := "MailCharacters$Bits") (T := F_Bits) (N := 2) hx hb hts i_Bits hown hK hP 0 rfl rfl 0 (by decide) (hts _ k_131) (fun _ h9 => h9) rfl d_Bits_add_2 ?_
  refine lv_iload_n hx hb d_Bits_add_5 rfl (lv_at hl 2 rfl) ?_
  refine lv_ishl hx hb d_Bits_add_6 ?_
  refine lv_iload_n hx hb d_Bits_add_7 rfl (lv_at hl 1 rfl) ?_
  refine lv_ior hx hb d_Bits_add_8 ?_
  refine va_put (D := D) (ci := 0) (v := .int ((v0_value <<< (p2 &&& 31)) ||| p1)) (ty := .int) (C := "MailCharacters$Bits") (T := F_Bits) (N := 2) hx hb hts i_Bits t_Bits t_Bits_ok n_Bits hown hK hP hD hS 0 rfl rfl 0 (by decide) (hts _ k_131) (fun _ h9 => h9) rfl (by decide +kernel) rfl rfl (Nat.le_of_ble_eq_true rfl) d_Bits_add_9 (fun H locs hP hD hS => ?_)
  have hP : va_P D vwCl [(a0, .inr (0, [.int ((v0_value <<< (p2 &&& 31)) ||| p1), .int v0_held]))] H := hP
  have hD : va_D A [(a0, .inr (0, [.int ((v0_value <<< (p2 &&& 31)) ||| p1), .int v0_held]))] := hD
  refine lv_aload_n hx hb d_Bits_add_12 rfl (lv_at hl 0 rfl) ?_
  refine lv_dup hx hb d_Bits_add_13 rfl ?_
  refine va_get (D := D) (ci := 0) (v := .int v0_held) (C := "MailCharacters$Bits") (T := F_Bits) (N := 2) hx hb hts i_Bits hown hK hP 0 rfl rfl 1 (by decide) (hts _ k_132) (fun _ h9 => h9) rfl d_Bits_add_14 ?_
  refine lv_iload_n hx hb d_Bits_add_17 rfl (lv_at hl 2 rfl) ?_
  refine lv_iadd hx hb d_Bits_add_18 ?_
  refine va_put (D := D) (ci := 0) (v := .int (v0_held + p2)) (ty := .int) (C := "MailCharacters$Bits") (T := F_Bits) (N := 2) hx hb hts i_Bits t_Bits t_Bits_ok n_Bits hown hK hP hD hS 0 rfl rfl 1 (by decide) (hts _ k_132) (fun _ h9 => h9) rfl (by decide +kernel) rfl rfl (Nat.le_of_ble_eq_true rfl) d_Bits_add_19 (fun H locs hP hD hS => ?_)
  have hP : va_P D vwCl [(a0, .inr (0, [.int ((v0_value <<< (p2 &&& 31)) ||| p1), .int (v0_held + p2)]))] H := hP
  have hD : va_D A [(a0, .inr (0, [.int ((v0_value <<< (p2 &&& 31)) ||| p1), .int (v0_held + p2)]))] := hD
  exact hret (((v0_value <<< (p2 &&& 31)) ||| p1), (v0_held + p2)) _ _ _ _ d_Bits_add_22 (hRES.symm.trans hF) hP hD hS
theorem cw_Bits_add {R : Room} {s : State} {args : Array Value} {own : String} {idx : Nat} (hts : ∀ w ∈ gW, w.before args s = true) (hl : Cond.methodLink own idx y_Bits_add ∈ gW) (hR : rm_Bits_add.frames + 1 ≤ R.frames ∧ 8 + (3 + 11) + rm_Bits_add.locals ≤ R.locals) : CallW R s args own "MailCharacters$Bits" idx y_Bits_add b_Bits_add 3 none w_Bits_add rm_Bits_add 0 0 2 := cwV 2 hts (gW_V hl k_453 k_454 k_71 k_455) rfl rfl rfl (by decide +kernel) hR
