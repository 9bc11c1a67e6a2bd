def m_Uncoder_uncodeWord (n2 : Nat) (v0_based : Int32) (v0_from : Int32) (v0_to : Int32) (l1 : List Int32) (l2 : List Int32) (o2 : Int32) (v4_value : Int32) (v4_held : Int32) : List Int32 × Int32 × Int32 × Int32 :=
  if v0_based = 0 then
    match (m_Uncoder_unquote n2 l1 l2 o2 v0_from v0_to 1) with
    | (l2_2, o2_2) =>
      (l2_2, o2_2, v4_value, v4_held)
  else
    match (m_Uncoder_unbase n2 l1 l2 o2 v0_from v0_to) with
    | (v4_value_3, v4_held_3, l2_3, o2_3) =>
      (l2_3, o2_3, v4_value_3, v4_held_3)
def rm_Uncoder_uncodeWord : Room := { frames := 2, cells := 0, slots := 0, locals := 49 }
set_option maxHeartbeats 4000000 in
set_option maxRecDepth 100000 in
theorem c_Uncoder_uncodeWord (l : Launch) (D : va_G) (Z : gZT) (kI : ClassId) (a0 : Nat) (a1 : Nat) (b1 : Nat) (n1 : Nat) (a2 : Nat) (b2 : Nat) (n2 : Nat) (a3 : Nat) (x3_line : Nat) (a4 : Nat) (sz : Nat) (v0_charset : Int32) (v0_based : Int32) (v0_from : Int32) (v0_to : Int32) (v0_next : Int32) (f1 : Nat → Int32) (l1 : List Int32) (o1 : Int32) (f2 : Nat → Int32) (l2 : List Int32) (o2 : Int32) (v4_value : Int32) (v4_held : Int32) (hr1 : g_rw n1 f1 l1) (hr2 : g_rw n2 f2 l2) : gMv l y_Uncoder_uncodeWord w_Uncoder_uncodeWord rm_Uncoder_uncodeWord D Z kI [.ref a3, .ref a1, .ref a0, .ref a2] sz [(a0, .inr (6, [.int v0_charset, .int v0_based, .int v0_from, .int v0_to, .int v0_next])), (a1, .inr (4, [.ref b1, .int (nI l1.length), .int o1])), (b1, .inl (kI, n1, .inl f1)), (a2, .inr (4, [.ref b2, .int (nI l2.length), .int o2])), (b2, .inl (kI, n2, .inl f2)), (a3, .inr (5, [.ref a4, .ref x3_line])), (a4, .inr (0, [.int v4_value, .int v4_held]))] (fun (u : (Nat → Int32) × List Int32 × Int32 × Int32 × Int32) => m_Uncoder_uncodeWord n2 v0_based v0_from v0_to l1 l2 o2 v4_value v4_held = (u.2.1, u.2.2.1, u.2.2.2.1, u.2.2.2.2) ∧ g_rw n2 u.1 u.2.1) (fun (u : (Nat → Int32) × List Int32 × Int32 × Int32 × Int32) => ([(a0, .inr (6, [.int v0_charset, .int v0_based, .int v0_from, .int v0_to, .int v0_next])), (a1, .inr (4, [.ref b1, .int (nI l1.length), .int o1])), (b1, .inl (kI, n1, .inl f1)), (a2, .inr (4, [.ref b2, .int (nI u.2.1.length), .int u.2.2.1])), (b2, .inl (kI, n2, .inl u.1)), (a3, .inr (5, [.ref a4, .ref x3_line])), (a4, .inr (0, [.int u.2.2.2.1, .int u.2.2.2.2]))] : va_W)) := by
  refine g_ofv (cc := b_Uncoder_uncodeWord) (maxL := 4) (by decide) rfl (Nat.le_of_ble_eq_true rfl) ?_
  intro p e s m below meth c A Q H ls hx hb hml hown hts hA hK hZ hP hD hS hl hret
  have hown : s.vm.findClass "MailCharacters$Uncoder" = some m.cls := hown
  have hl : lv_has ls 4 [(0, .ref a3), (1, .ref a1), (2, .ref a0), (3, .ref a2)] := hl
  obtain ⟨RES, hRES⟩ : ∃ z, z = m_Uncoder_uncodeWord n2 v0_based v0_from v0_to l1 l2 o2 v4_value v4_held := ⟨_, rfl⟩
  have hF := hRES
  rw [m_Uncoder_uncodeWord] at hF
  refine lv_aload_n hx hb d_Uncoder_uncodeWord_0 rfl (lv_at hl 2 rfl) ?_
  refine va_getN (D := D) (ci := 6) (v := .int v0_based) (C := "MailCharacters$Word") (T := F_Word) (N := 5) hx hb hts i_Word hown hK hP 0 rfl rfl 1 (by decide) (gZ_nf hZ 3 (q := ("MailCharacters$Uncoder", 42, "MailCharacters$Word", "based", "Z")) rfl) (fun _ h9 => h9) rfl d_Uncoder_uncodeWord_1 ?_
  refine lv_if_eq (tgt := 24) hx hb d_Uncoder_uncodeWord_4 (by decide) (fun c_1 => ?_) (fun c_1 => ?_)
  · rw [if_pos c_1] at hF
    refine lv_aload_n hx hb d_Uncoder_uncodeWord_24 rfl (lv_at hl 1 rfl) ?_
    refine lv_aload_n hx hb d_Uncoder_uncodeWord_25 rfl (lv_at hl 2 rfl) ?_
    refine va_getN (D := D) (ci := 6) (v := .int v0_from) (C := "MailCharacters$Word") (T := F_Word) (N := 5) hx hb hts i_Word hown hK hP 0 rfl rfl 2 (by decide) (gZ_nf hZ 4 (q := ("MailCharacters$Uncoder", 48, "MailCharacters$Word", "from", "I")) rfl) (fun _ h9 => h9) rfl d_Uncoder_uncodeWord_26 ?_
    refine lv_aload_n hx hb d_Uncoder_uncodeWord_29 rfl (lv_at hl 2 rfl) ?_
    refine va_getN (D := D) (ci := 6) (v := .int v0_to) (C := "MailCharacters$Word") (T := F_Word) (N := 5) hx hb hts i_Word hown hK hP 0 rfl rfl 3 (by decide) (gZ_nf hZ 5 (q := ("MailCharacters$Uncoder", 52, "MailCharacters$Word", "to", "I")) rfl) (fun _ h9 => h9) rfl d_Uncoder_uncodeWord_30 ?_
    refine lv_iconst (v := 1) hx hb d_Uncoder_uncodeWord_33 (by decide) ?_
    refine lv_aload_n hx hb d_Uncoder_uncodeWord_34 rfl (lv_at hl 3 rfl) ?_
    refine g_Sv (As := [.ref a1, .int v0_from, .int v0_to, .int 1, .ref a2]) (rest := []) (wr := [(a0, .inr (6, [.int v0_charset, .int v0_based, .int v0_from, .int v0_to, .int v0_next])), (a3, .inr (5, [.ref a4, .ref x3_line])), (a4, .inr (0, [.int v4_value, .int v4_held]))]) ⟨hx, hb, hml, hown, hts⟩ (c_Uncoder_unquote l D Z kI a1 b1 n1 a2 b2 n2 H.size f1 l1 o1 f2 l2 o2 v0_from v0_to 1 hr1 hr2) (cw_Uncoder_unquote hts k_509 ⟨Nat.le_of_ble_eq_true rfl, Nat.le_of_ble_eq_true rfl⟩) hK hZ hP hD hS hA [1, 2, 3, 4] [0, 5, 6] rfl rfl (by decide) (by decide) (by decide) rfl hl.1 rfl (Nat.le_of_ble_eq_true rfl) d_Uncoder_uncodeWord_35 ⟨Nat.zero_le _, Nat.zero_le _⟩ (fun u_2 H locs hw hP hD hS => ?_)
    obtain ⟨f2_2, l2_2, o2_2⟩ := u_2
    have e_2 := hw.1
    have hr2_2 := hw.2
    have hP : va_P D vwCl [(a0, .inr (6, [.int v0_charset, .int v0_based, .int v0_from, .int v0_to, .int v0_next])), (a3, .inr (5, [.ref a4, .ref x3_line])), (a4, .inr (0, [.int v4_value, .int v4_held])), (a1, .inr (4, [.ref b1, .int (nI l1.length), .int o1])), (b1, .inl (kI, n1, .inl f1)), (a2, .inr (4, [.ref b2, .int (nI l2_2.length), .int o2_2])), (b2, .inl (kI, n2, .inl f2_2))] H := hP
    have hD : va_D A [(a0, .inr (6, [.int v0_charset, .int v0_based, .int v0_from, .int v0_to, .int v0_next])), (a3, .inr (5, [.ref a4, .ref x3_line])), (a4, .inr (0, [.int v4_value, .int v4_held])), (a1, .inr (4, [.ref b1, .int (nI l1.length), .int o1])), (b1, .inl (kI, n1, .inl f1)), (a2, .inr (4, [.ref b2, .int (nI l2_2.length), .int o2_2])), (b2, .inl (kI, n2, .inl f2_2))] := hD
    rw [e_2] at hF; dsimp only at hF
    exact hret (f2_2, l2_2, o2_2, v4_value, v4_held) _ _ _ _ d_Uncoder_uncodeWord_38 (⟨hRES.symm.trans hF, hr2_2⟩) (hP.sub [0, 3, 4, 5, 6, 1, 2] rfl) (hD.sub [0, 3, 4, 5, 6, 1, 2] (by decide) rfl) hS
  · rw [if_neg c_1] at hF
    refine lv_aload_n hx hb d_Uncoder_uncodeWord_7 rfl (lv_at hl 0 rfl) ?_
    refine lv_aload_n hx hb d_Uncoder_uncodeWord_8 rfl (lv_at hl 1 rfl) ?_
    refine lv_aload_n hx hb d_Uncoder_uncodeWord_9 rfl (lv_at hl 2 rfl) ?_
    refine va_getN (D := D) (ci := 6) (v := .int v0_from) (C := "MailCharacters$Word") (T := F_Word) (N := 5) hx hb hts i_Word hown hK hP 0 rfl rfl 2 (by decide) (gZ_nf hZ 4 (q := ("MailCharacters$Uncoder", 48, "MailCharacters$Word", "from", "I")) rfl) (fun _ h9 => h9) rfl d_Uncoder_uncodeWord_10 ?_
    refine lv_aload_n hx hb d_Uncoder_uncodeWord_13 rfl (lv_at hl 2 rfl) ?_
    refine va_getN (D := D) (ci := 6) (v := .int v0_to) (C := "MailCharacters$Word") (T := F_Word) (N := 5) hx hb hts i_Word hown hK hP 0 rfl rfl 3 (by decide) (gZ_nf hZ 5 (q := ("MailCharacters$Uncoder", 52, "MailCharacters$Word", "to", "I")) rfl) (fun _ h9 => h9) rfl d_Uncoder_uncodeWord_14 ?_
    refine lv_aload_n hx hb d_Uncoder_uncodeWord_17 rfl (lv_at hl 3 rfl) ?_
    refine g_Vv (As := [.ref a1, .int v0_from, .int v0_to, .ref a2]) (rest := []) (wr := [(a0, .inr (6, [.int v0_charset, .int v0_based, .int v0_from, .int v0_to, .int v0_next]))]) ⟨hx, hb, hml, hown, hts⟩ (c_Uncoder_unbase l D Z kI a1 b1 n1 a3 x3_line a4 a2 b2 n2 H.size f1 l1 o1 v4_value v4_held f2 l2 o2 v0_from v0_to hr1 hr2) (cw_Uncoder_unbase hts k_498 ⟨Nat.le_of_ble_eq_true rfl, Nat.le_of_ble_eq_true rfl⟩) hK hZ hP hD hS hA [1, 2, 5, 6, 3, 4] [0] (g_recv hK hP (ci := 5) (q0 := 5) rfl rfl) rfl rfl (by decide) (by decide) (by decide) rfl hl.1 rfl (Nat.le_of_ble_eq_true rfl) d_Uncoder_uncodeWord_18 ⟨Nat.zero_le _, Nat.zero_le _⟩ (fun u_3 H locs hw hP hD hS => ?_)
    obtain ⟨v4_value_3, v4_held_3, f2_3, l2_3, o2_3⟩ := u_3
    have e_3 := hw.1
    have hr2_3 := hw.2
    have hP : va_P D vwCl [(a0, .inr (6, [.int v0_charset, .int v0_based, .int v0_from, .int v0_to, .int v0_next])), (a1, .inr (4, [.ref b1, .int (nI l1.length), .int o1])), (b1, .inl (kI, n1, .inl f1)), (a3, .inr (5, [.ref a4, .ref x3_line])), (a4, .inr (0, [.int v4_value_3, .int v4_held_3])), (a2, .inr (4, [.ref b2, .int (nI l2_3.length), .int o2_3])), (b2, .inl (kI, n2, .inl f2_3))] H := hP
    have hD : va_D A [(a0, .inr (6, [.int v0_charset, .int v0_based, .int v0_from, .int v0_to, .int v0_next])), (a1, .inr (4, [.ref b1, .int (nI l1.length), .int o1])), (b1, .inl (kI, n1, .inl f1)), (a3, .inr (5, [.ref a4, .ref x3_line])), (a4, .inr (0, [.int v4_value_3, .int v4_held_3])), (a2, .inr (4, [.ref b2, .int (nI l2_3.length), .int o2_3])), (b2, .inl (kI, n2, .inl f2_3))] := hD
    rw [e_3] at hF; dsimp only at hF
    refine lv_goto (tgt := 38) hx hb d_Uncoder_uncodeWord_21 (by decide) ?_
    exact hret (f2_3, l2_3, o2_3, v4_value_3, v4_held_3) _ _ _ _ d_Uncoder_uncodeWord_38 (⟨hRES.symm.trans hF, hr2_3⟩) (hP.sub [0, 1, 2, 5, 6, 3, 4] rfl) (hD.sub [0, 1, 2, 5, 6, 3, 4] (by decide) rfl) hS
theorem cw_Uncoder_uncodeWord {R : Room} {s : State} {args : Array Value} {own : String} {idx : Nat} (hts : ∀ w ∈ gW, w.before args s = true) (hl : Cond.methodLink own idx y_Uncoder_uncodeWord ∈ gW) (hR : rm_Uncoder_uncodeWord.frames + 1 ≤ R.frames ∧ 8 + (4 + 11) + rm_Uncoder_uncodeWord.locals ≤ R.locals) : CallW R s args own "MailCharacters$Uncoder" idx y_Uncoder_uncodeWord b_Uncoder_uncodeWord 4 none w_Uncoder_uncodeWord rm_Uncoder_uncodeWord 0 0 3 := cwV 3 hts (gW_V hl k_495 k_496 k_70 k_497) rfl rfl rfl (by decide +kernel) hR
def m_Uncoder_unhexLines_l12 (n4 : Nat) : Nat → Int32 → Int32 → List Int32 → Int32 → Int32 → Int32 → Int32 → Int32 → Int32 → List Int32 → Int32 → Int32 × Int32 × Int32 × Int32 × Int32 × Int32 × List Int32 × Int32
  | 0, _, _, _, v2_from, v2_to, v2_ended, v2_next, v3_value, v3_held, l4, o4 => (v2_from, v2_to, v2_ended, v2_next, v3_value, v3_held, l4, o4)
  | nf12 + 1, i3, i4, l0, v2_from, v2_to, v2_ended, v2_next, v3_value, v3_held, l4, o4 =>
    if (m_Row_size l0) ≤ i4 then
      (v2_from, v2_to, v2_ended, v2_next, v3_value, v3_held, l4, o4)
    else
      match (m_Line_step l0 v2_from v2_to v2_ended v2_next) with
      | (r_4, v1_from_4, v1_to_4, v1_ended_4, v1_next_4) =>
        if r_4 = 0 then
          (v1_from_4, v1_to_4, v1_ended_4, v1_next_4, v3_value, v3_held, l4, o4)
        else
          if i3 = 0 then
            if (m_Line_length v1_from_4 v1_to_4) ≤ (m_String_length 16) then
              m_Uncoder_unhexLines_l12 n4 nf12 0 (i4 + 1) l0 v1_from_4 v1_to_4 v1_ended_4 v1_next_4 v3_value v3_held l4 o4
            else
              if (m_Line_begins v1_from_4 l0 16) = 0 then
                m_Uncoder_unhexLines_l12 n4 nf12 0 (i4 + 1) l0 v1_from_4 v1_to_4 v1_ended_4 v1_next_4 v3_value v3_held l4 o4
              else
                m_Uncoder_unhexLines_l12 n4 nf12 1 (i4 + 1) l0 v1_from_4 v1_to_4 v1_ended_4 v1_next_4 v3_value v3_held l4 o4
          else
            if (m_Uncoder_endsHex v1_from_4 v1_to_4 l0) = 0 then
              match (m_Uncoder_unhexLine n4 l4 o4 v1_from_4 v1_to_4 l0) with
              | (v0_value_9, v0_held_9, l1_9, o1_9) =>
                m_Uncoder_unhexLines_l12 n4 nf12 i3 (i4 + 1) l0 v1_from_4 v1_to_4 v1_ended_4 v1_next_4 v0_value_9 v0_held_9 l1_9 o1_9
            else
              (v1_from_4, v1_to_4, v1_ended_4, v1_next_4, v3_value, v3_held, l4, o4)
def m_Uncoder_unhexLines (n4 : Nat) (l0 : List Int32) (v2_from : Int32) (v2_to : Int32) (v2_ended : Int32) (v3_value : Int32) (v3_held : Int32) (l4 : List Int32) (o4 : Int32) : Int32 × Int32 × Int32 × Int32 × Int32 × Int32 × List Int32 × Int32 :=
  m_Uncoder_unhexLines_l12 n4 (((m_Row_size l0).toInt - (0 : Int32).toInt).toNat + 1) 0 0 l0 v2_from v2_to v2_ended m_Line_goToStart v3_value v3_held l4 o4
def rm_Uncoder_unhexLines : Room := { frames := 6, cells := 0, slots := 0, locals := 129 }
set_option maxHeartbeats 4000000 in
set_option maxRecDepth 100000 in
theorem c_Uncoder_unhexLines (l : Launch) (D : va_G) (Z : gZT) (kI : ClassId) (a0 : Nat) (b0 : Nat) (n0 : Nat) (a1 : Nat) (a2 : Nat) (a3 : Nat) (a4 : Nat) (b4 : Nat) (n4 : Nat) (sz : Nat) (f0 : Nat → Int32) (l0 : List Int32) (o0 : Int32) (v2_from : Int32) (v2_to : Int32) (v2_ended : Int32) (v2_next : Int32) (v3_value : Int32) (v3_held : Int32) (f4 : Nat → Int32) (l4 : List Int32) (o4 : Int32) (hr0 : g_rw n0 f0 l0) (hr4 : g_rw n4 f4 l4) : gMv l y_Uncoder_unhexLines w_Uncoder_unhexLines rm_Uncoder_unhexLines D Z kI [.ref a1, .ref a0, .ref a4] sz [(a0, .inr (4, [.ref b0, .int (nI l0.length), .int o0])), (b0, .inl (kI, n0, .inl f0)), (a1, .inr (5, [.ref a3, .ref a2])), (a2, .inr (2, [.int v2_from, .int v2_to, .int v2_ended, .int v2_next])), (a3, .inr (0, [.int v3_value, .int v3_held])), (a4, .inr (4, [.ref b4, .int (nI l4.length), .int o4])), (b4, .inl (kI, n4, .inl f4))] (fun (u : Int32 × Int32 × Int32 × Int32 × Int32 × Int32 × (Nat → Int32) × List Int32 × Int32) => m_Uncoder_unhexLines n4 l0 v2_from v2_to v2_ended v3_value v3_held l4 o4 = (u.1, u.2.1, u.2.2.1, u.2.2.2.1, u.2.2.2.2.1, u.2.2.2.2.2.1, u.2.2.2.2.2.2.2.1, u.2.2.2.2.2.2.2.2) ∧ g_rw n4 u.2.2.2.2.2.2.1 u.2.2.2.2.2.2.2.1) (fun (u : Int32 × Int32 × Int32 × Int32 × Int32 × Int32 × (Nat → Int32) × List Int32 × Int32) => ([(a0, .inr (4, [.ref b0, .int (nI l0.length), .int o0])), (b0, .inl (kI, n0, .inl f0)), (a1, .inr (5, [.ref a3, .ref a2])), (a2, .inr (2, [.int u.1, .int u.2.1, .int u.2.2.1, .int u.2.2.2.1])), (a3, .inr (0, [.int u.2.2.2.2.1, .int u.2.2.2.2.2.1])), (a4, .inr (4, [.ref b4, .int (nI u.2.2.2.2.2.2.2.1.length), .int u.2.2.2.2.2.2.2.2])), (b4, .inl (kI, n4, .inl u.2.2.2.2.2.2.1))] : va_W)) := by
  refine g_ofv (cc := b_Uncoder_unhexLines) (maxL := 5) (by decide) rfl (Nat.le_of_ble_eq_true rfl) ?_
  intro p e s m below meth c A Q H ls hx hb hml hown hts hA hK hZ hP hD hS hl hret
  have hown : s.vm.findClass "MailCharacters$Uncoder" = some m.cls := hown
  have hl : lv_has ls 5 [(0, .ref a1), (1, .ref a0), (2, .ref a4)] := hl
  obtain ⟨RES, hRES⟩ : ∃ z, z = m_Uncoder_unhexLines n4 l0 v2_from v2_to v2_ended v3_value v3_held l4 o4 := ⟨_, rfl⟩
  have lp12 : ∀ (nf12 : Nat) (i3 : Int32) (i4 : Int32) (v2_from : Int32) (v2_to : Int32) (v2_ended : Int32) (v2_next : Int32) (v3_value : Int32) (v3_held : Int32) (f4 : Nat → Int32) (l4 : List Int32) (o4 : Int32) (hr4 : g_rw n4 f4 l4) (H : Heap) (locs : List Loc) (ls : Array Slot), ((m_Row_size l0).toInt - i4.toInt).toNat < nf12 → RES = m_Uncoder_unhexLines_l12 n4 nf12 i3 i4 l0 v2_from v2_to v2_ended v2_next v3_value v3_held l4 o4 → va_P D vwCl [(a0, .inr (4, [.ref b0, .int (nI l0.length), .int o0])), (b0, .inl (kI, n0, .inl f0)), (a1, .inr (5, [.ref a3, .ref a2])), (a2, .inr (2, [.int v2_from, .int v2_to, .int v2_ended, .int v2_next])), (a3, .inr (0, [.int v3_value, .int v3_held])), (a4, .inr (4, [.ref b4, .int (nI l4.length), .int o4])), (b4, .inl (kI, n4, .inl f4))] H → va_D A [(a0, .inr (4, [.ref b0, .int (nI l0.length), .int o0])), (b0, .inl (kI, n0, .inl f0)), (a1, .inr (5, [.ref a3, .ref a2])), (a2, .inr (2, [.int v2_from, .int v2_to, .int v2_ended, .int v2_next])), (a3, .inr (0, [.int v3_value, .int v3_held])), (a4, .inr (4, [.ref b4, .int (nI l4.length), .int o4])), (b4, .inl (kI, n4, .inl f4))] → va_S A s.heap H locs → lv_has ls 5 [(0, .ref a1), (1, .ref a0), (2, .ref a4), (3, .int i3), (4, .int i4)] → W p l e rm_Uncoder_unhexLines s m ([.ref a1, .ref a0, .ref a4] : List Value).toArray below meth c H locs 0 0 Q (F0 m 12 ls []) := by
    intro nf12
    induction nf12 with
    | zero => intro i3 i4 v2_from v2_to v2_ended v2_next v3_value v3_held f4 l4 o4 hr4 H locs ls hn12; exact absurd hn12 (Nat.not_lt_zero _)
    | succ nf12 ih12 =>
      intro i3 i4 v2_from v2_to v2_ended v2_next v3_value v3_held f4 l4 o4 hr4 H locs ls hn12 hF hP hD hS hl
      rw [m_Uncoder_unhexLines_l12] at hF
      refine lv_iload hx hb d_Uncoder_unhexLines_12 (lv_at hl 4 rfl) ?_
      refine lv_aload_n hx hb d_Uncoder_unhexLines_14 rfl (lv_at hl 1 rfl) ?_
      refine g_Vi (As := []) (rest := [.int i4]) (wr := [(a1, .inr (5, [.ref a3, .ref a2])), (a2, .inr (2, [.int v2_from, .int v2_to, .int v2_ended, .int v2_next])), (a3, .inr (0, [.int v3_value, .int v3_held])), (a4, .inr (4, [.ref b4, .int (nI l4.length), .int o4])), (b4, .inl (kI, n4, .inl f4))]) ⟨hx, hb, hml, hown, hts⟩ (c_Row_size l D Z kI a0 b0 n0 H.size f0 l0 o0 hr0) (cw_Row_size hts k_611 ⟨Nat.le_of_ble_eq_true rfl, Nat.le_of_ble_eq_true rfl⟩) hK hZ hP hD hS hA [0, 1] [2, 3, 4, 5, 6] (g_recv hK hP (ci := 4) (q0 := 0) rfl rfl) rfl rfl (by decide) (by decide) (by decide) rfl hl.1 rfl (Nat.le_of_ble_eq_true rfl) d_Uncoder_unhexLines_15 ⟨Nat.zero_le _, Nat.zero_le _⟩ (fun r_2 u_2 H locs hw hP hD hS => ?_)
      have e_2 := hw
      subst e_2
      have hP : va_P D vwCl [(a1, .inr (5, [.ref a3, .ref a2])), (a2, .inr (2, [.int v2_from, .int v2_to, .int v2_ended, .int v2_next])), (a3, .inr (0, [.int v3_value, .int v3_held])), (a4, .inr (4, [.ref b4, .int (nI l4.length), .int o4])), (b4, .inl (kI, n4, .inl f4)), (a0, .inr (4, [.ref b0, .int (nI l0.length), .int o0])), (b0, .inl (kI, n0, .inl f0))] H := hP
      have hD : va_D A [(a1, .inr (5, [.ref a3, .ref a2])), (a2, .inr (2, [.int v2_from, .int v2_to, .int v2_ended, .int v2_next])), (a3, .inr (0, [.int v3_value, .int v3_held])), (a4, .inr (4, [.ref b4, .int (nI l4.length), .int o4])), (b4, .inl (kI, n4, .inl f4)), (a0, .inr (4, [.ref b0, .int (nI l0.length), .int o0])), (b0, .inl (kI, n0, .inl f0))] := hD
      refine lv_icmp_ge (tgt := 94) hx hb d_Uncoder_unhexLines_18 (by decide) (fun c_3 => ?_) (fun c_3 => ?_)
      · rw [if_pos c_3] at hF
        exact hret (v2_from, v2_to, v2_ended, v2_next, v3_value, v3_held, f4, l4, o4) _ _ _ _ d_Uncoder_unhexLines_94 (⟨hRES.symm.trans hF, hr4⟩) (hP.sub [5, 6, 0, 1, 2, 3, 4] rfl) (hD.sub [5, 6, 0, 1, 2, 3, 4] (by decide) rfl) hS
      · rw [if_neg c_3] at hF
        refine lv_aload_n hx hb d_Uncoder_unhexLines_21 rfl (lv_at hl 0 rfl) ?_
        refine va_get (D := D) (ci := 5) (v := .ref a2) (C := "MailCharacters$Uncoder") (T := F_Uncoder) (N := 2) hx hb hts i_Uncoder hown hK hP 0 rfl rfl 1 (by decide) (hts _ k_161) (fun _ h9 => h9) rfl d_Uncoder_unhexLines_22 ?_
        refine lv_aload_n hx hb d_Uncoder_unhexLines_25 rfl (lv_at hl 1 rfl) ?_
        refine g_Vi (As := [.ref a0]) (rest := []) (wr := [(a1, .inr (5, [.ref a3, .ref a2])), (a3, .inr (0, [.int v3_value, .int v3_held])), (a4, .inr (4, [.ref b4, .int (nI l4.length), .int o4])), (b4, .inl (kI, n4, .inl f4))]) ⟨hx, hb, hml, hown, hts⟩ (c_Line_step l D Z kI a0 b0 n0 a2 H.size f0 l0 o0 v2_from v2_to v2_ended v2_next hr0) (cw_Line_step hts k_620 ⟨Nat.le_of_ble_eq_true rfl, Nat.le_of_ble_eq_true rfl⟩) hK hZ hP hD hS hA [5, 6, 1] [0, 2, 3, 4] (g_recv hK hP (ci := 2) (q0 := 1) rfl rfl) rfl rfl (by decide) (by decide) (by decide) rfl hl.1 rfl (Nat.le_of_ble_eq_true rfl) d_Uncoder_unhexLines_26 ⟨Nat.zero_le _, Nat.zero_le _⟩ (fun r_4 u_4 H locs hw hP hD hS => ?_)
        obtain ⟨v1_from_4, v1_to_4, v1_ended_4, v1_next_4⟩ := u_4
        have e_4 := hw
        have hP : va_P D vwCl [(a1, .inr (5, [.ref a3, .ref a2])), (a3, .inr (0, [.int v3_value, .int v3_held])), (a4, .inr (4, [.ref b4, .int (nI l4.length), .int o4])), (b4, .inl (kI, n4, .inl f4)), (a0, .inr (4, [.ref b0, .int (nI l0.length), .int o0])), (b0, .inl (kI, n0, .inl f0)), (a2, .inr (2, [.int v1_from_4, .int v1_to_4, .int v1_ended_4, .int v1_next_4]))] H := hP
        have hD : va_D A [(a1, .inr (5, [.ref a3, .ref a2])), (a3, .inr (0, [.int v3_value, .int v3_held])), (a4, .inr (4, [.ref b4, .int (nI l4.length), .int o4])), (b4, .inl (kI, n4, .inl f4)), (a0, .inr (4, [.ref b0, .int (nI l0.length), .int o0])), (b0, .inl (kI, n0, .inl f0)), (a2, .inr (2, [.int v1_from_4, .int v1_to_4, .int v1_ended_4, .int v1_next_4]))] := hD
        rw [e_4] at hF; dsimp only at hF
        refine lv_if_eq (tgt := 94) hx hb d_Uncoder_unhexLines_29 (by decide) (fun c_5 => ?_) (fun c_5 => ?_)
        · rw [if_pos c_5] at hF
          exact hret (v1_from_4, v1_to_4, v1_ended_4, v1_next_4, v3_value, v3_held, f4, l4, o4) _ _ _ _ d_Uncoder_unhexLines_94 (⟨hRES.symm.trans hF, hr4⟩) (hP.sub [4, 5, 0, 6, 1, 2, 3] rfl) (hD.sub [4, 5, 0, 6, 1, 2, 3] (by decide) rfl) hS
        · rw [if_neg c_5] at hF
          refine lv_iload_n hx hb d_Uncoder_unhexLines_32 rfl (lv_at hl 3 rfl) ?_
          refine lv_if_ne (tgt := 73) hx hb d_Uncoder_unhexLines_33 (by decide) (fun c_6 => ?_) (fun c_6 => ?_)
          · rw [if_neg c_6] at hF
            refine lv_aload_n hx hb d_Uncoder_unhexLines_73 rfl (lv_at hl 0 rfl) ?_
            refine lv_aload_n hx hb d_Uncoder_unhexLines_74 rfl (lv_at hl 1 rfl) ?_
            refine g_Vi (As := [.ref a0]) (rest := []) (wr := [(a3, .inr (0, [.int v3_value, .int v3_held])), (a4, .inr (4, [.ref b4, .int (nI l4.length), .int o4])), (b4, .inl (kI, n4, .inl f4))]) ⟨hx, hb, hml, hown, hts⟩ (c_Uncoder_endsHex l D Z kI a1 a3 a2 a0 b0 n0 H.size v1_from_4 v1_to_4 v1_ended_4 v1_next_4 f0 l0 o0 hr0) (cw_Uncoder_endsHex hts k_645 ⟨Nat.le_of_ble_eq_true rfl, Nat.le_of_ble_eq_true rfl⟩) hK hZ hP hD hS hA [0, 6, 4, 5] [1, 2, 3] (g_recv hK hP (ci := 5) (q0 := 0) rfl rfl) rfl rfl (by decide) (by decide) (by decide) rfl hl.1 rfl (Nat.le_of_ble_eq_true rfl) d_Uncoder_unhexLines_75 ⟨Nat.zero_le _, Nat.zero_le _⟩ (fun r_7 u_7 H locs hw hP hD hS => ?_)
            have e_7 := hw
            subst e_7
            have hP : va_P D vwCl [(a3, .inr (0, [.int v3_value, .int v3_held])), (a4, .inr (4, [.ref b4, .int (nI l4.length), .int o4])), (b4, .inl (kI, n4, .inl f4)), (a1, .inr (5, [.ref a3, .ref a2])), (a2, .inr (2, [.int v1_from_4, .int v1_to_4, .int v1_ended_4, .int v1_next_4])), (a0, .inr (4, [.ref b0, .int (nI l0.length), .int o0])), (b0, .inl (kI, n0, .inl f0))] H := hP
            have hD : va_D A [(a3, .inr (0, [.int v3_value, .int v3_held])), (a4, .inr (4, [.ref b4, .int (nI l4.length), .int o4])), (b4, .inl (kI, n4, .inl f4)), (a1, .inr (5, [.ref a3, .ref a2])), (a2, .inr (2, [.int v1_from_4, .int v1_to_4, .int v1_ended_4, .int v1_next_4])), (a0, .inr (4, [.ref b0, .int (nI l0.length), .int o0])), (b0, .inl (kI, n0, .inl f0))] := hD
            refine lv_if_eq (tgt := 82) hx hb d_Uncoder_unhexLines_78 (by decide) (fun c_8 => ?_) (fun c_8 => ?_)
            · rw [if_pos c_8] at hF
              refine lv_aload_n hx hb d_Uncoder_unhexLines_82 rfl (lv_at hl 0 rfl) ?_
              refine lv_aload_n hx hb d_Uncoder_unhexLines_83 rfl (lv_at hl 1 rfl) ?_
              refine lv_aload_n hx hb d_Uncoder_unhexLines_84 rfl (lv_at hl 2 rfl) ?_
              refine g_Vv (As := [.ref a0, .ref a4]) (rest := []) (wr := []) ⟨hx, hb, hml, hown, hts⟩ (c_Uncoder_unhexLine l D Z kI a1 a3 a4 b4 n4 a2 a0 b0 n0 H.size v3_value v3_held f4 l4 o4 v1_from_4 v1_to_4 v1_ended_4 v1_next_4 f0 l0 o0 hr4 hr0) (cw_Uncoder_unhexLine hts k_653 ⟨Nat.le_of_ble_eq_true rfl, Nat.le_of_ble_eq_true rfl⟩) hK hZ hP hD hS hA [3, 0, 1, 2, 4, 5, 6] [] (g_recv hK hP (ci := 5) (q0 := 3) rfl rfl) rfl rfl (by decide) (by decide) (by decide) rfl hl.1 rfl (Nat.le_of_ble_eq_true rfl) d_Uncoder_unhexLines_85 ⟨Nat.zero_le _, Nat.zero_le _⟩ (fun u_9 H locs hw hP hD hS => ?_)
              obtain ⟨v0_value_9, v0_held_9, f1_9, l1_9, o1_9⟩ := u_9
              have e_9 := hw.1
              have hr1_9 := hw.2
              have hP : va_P D vwCl [(a1, .inr (5, [.ref a3, .ref a2])), (a3, .inr (0, [.int v0_value_9, .int v0_held_9])), (a4, .inr (4, [.ref b4, .int (nI l1_9.length), .int o1_9])), (b4, .inl (kI, n4, .inl f1_9)), (a2, .inr (2, [.int v1_from_4, .int v1_to_4, .int v1_ended_4, .int v1_next_4])), (a0, .inr (4, [.ref b0, .int (nI l0.length), .int o0])), (b0, .inl (kI, n0, .inl f0))] H := hP
              have hD : va_D A [(a1, .inr (5, [.ref a3, .ref a2])), (a3, .inr (0, [.int v0_value_9, .int v0_held_9])), (a4, .inr (4, [.ref b4, .int (nI l1_9.length), .int o1_9])), (b4, .inl (kI, n4, .inl f1_9)), (a2, .inr (2, [.int v1_from_4, .int v1_to_4, .int v1_ended_4, .int v1_next_4])), (a0, .inr (4, [.ref b0, .int (nI l0.length), .int o0])), (b0, .inl (kI, n0, .inl f0))] := hD
              rw [e_9] at hF; dsimp only at hF
              refine lv_iinc (v := (i4 + 1)) (lv' := [(4, .int (i4 + 1)), (0, .ref a1), (1, .ref a0), (2, .ref a4), (3, .int i3)]) hx hb d_Uncoder_unhexLines_88 hl (k := 4) rfl rfl (by decide) rfl (fun ls hl => ?_)
              refine lv_goto (tgt := 12) hx hb d_Uncoder_unhexLines_91 (by decide) ?_
              exact ih12 i3 (i4 + 1) v1_from_4 v1_to_4 v1_ended_4 v1_next_4 v0_value_9 v0_held_9 f1_9 l1_9 o1_9 hr1_9 _ _ _  (Nat.lt_of_lt_of_le (g_dec1 c_3) (Nat.le_of_lt_succ hn12)) hF (hP.sub [5, 6, 0, 4, 1, 2, 3] rfl) (hD.sub [5, 6, 0, 4, 1, 2, 3] (by decide) rfl) hS (lv_sub hl [1, 2, 3, 4, 0] rfl)
            · rw [if_neg c_8] at hF
              exact hret (v1_from_4, v1_to_4, v1_ended_4, v1_next_4, v3_value, v3_held, f4, l4, o4) _ _ _ _ d_Uncoder_unhexLines_81 (⟨hRES.symm.trans hF, hr4⟩) (hP.sub [5, 6, 3, 4, 0, 1, 2] rfl) (hD.sub [5, 6, 3, 4, 0, 1, 2] (by decide) rfl) hS
          · rw [if_pos c_6] at hF
            refine lv_aload_n hx hb d_Uncoder_unhexLines_36 rfl (lv_at hl 0 rfl) ?_
            refine va_get (D := D) (ci := 5) (v := .ref a2) (C := "MailCharacters$Uncoder") (T := F_Uncoder) (N := 2) hx hb hts i_Uncoder hown hK hP 0 rfl rfl 1 (by decide) (hts _ k_161) (fun _ h9 => h9) rfl d_Uncoder_unhexLines_37 ?_
            refine g_Vi (As := []) (rest := []) (wr := [(a1, .inr (5, [.ref a3, .ref a2])), (a3, .inr (0, [.int v3_value, .int v3_held])), (a4, .inr (4, [.ref b4, .int (nI l4.length), .int o4])), (b4, .inl (kI, n4, .inl f4)), (a0, .inr (4, [.ref b0, .int (nI l0.length), .int o0])), (b0, .inl (kI, n0, .inl f0))]) ⟨hx, hb, hml, hown, hts⟩ (c_Line_length l D Z kI a2 H.size v1_from_4 v1_to_4 v1_ended_4 v1_next_4) (cw_Line_length hts k_633 ⟨Nat.le_of_ble_eq_true rfl, Nat.le_of_ble_eq_true rfl⟩) hK hZ hP hD hS hA [6] [0, 1, 2, 3, 4, 5] (g_recv hK hP (ci := 2) (q0 := 6) rfl rfl) rfl rfl (by decide) (by decide) (by decide) rfl hl.1 rfl (Nat.le_of_ble_eq_true rfl) d_Uncoder_unhexLines_40 ⟨Nat.zero_le _, Nat.zero_le _⟩ (fun r_10 u_10 H locs hw hP hD hS => ?_)
            have e_10 := hw
            subst e_10
            have hP : va_P D vwCl [(a1, .inr (5, [.ref a3, .ref a2])), (a3, .inr (0, [.int v3_value, .int v3_held])), (a4, .inr (4, [.ref b4, .int (nI l4.length), .int o4])), (b4, .inl (kI, n4, .inl f4)), (a0, .inr (4, [.ref b0, .int (nI l0.length), .int o0])), (b0, .inl (kI, n0, .inl f0)), (a2, .inr (2, [.int v1_from_4, .int v1_to_4, .int v1_ended_4, .int v1_next_4]))] H := hP
            have hD : va_D A [(a1, .inr (5, [.ref a3, .ref a2])), (a3, .inr (0, [.int v3_value, .int v3_held])), (a4, .inr (4, [.ref b4, .int (nI l4.length), .int o4])), (b4, .inl (kI, n4, .inl f4)), (a0, .inr (4, [.ref b0, .int (nI l0.length), .int o0])), (b0, .inl (kI, n0, .inl f0)), (a2, .inr (2, [.int v1_from_4, .int v1_to_4, .int v1_ended_4, .int v1_next_4]))] := hD
            refine va_ldcS hx hb hown (gZ_lit hZ (i := 16) (by decide)) d_Uncoder_unhexLines_43 ?_
            refine g_Vi (As := []) (rest := [.int (m_Line_length v1_from_4 v1_to_4)]) (wr := [(a1, .inr (5, [.ref a3, .ref a2])), (a3, .inr (0, [.int v3_value, .int v3_held])), (a4, .inr (4, [.ref b4, .int (nI l4.length), .int o4])), (b4, .inl (kI, n4, .inl f4)), (a0, .inr (4, [.ref b0, .int (nI l0.length), .int o0])), (b0, .inl (kI, n0, .inl f0)), (a2, .inr (2, [.int v1_from_4, .int v1_to_4, .int v1_ended_4, .int v1_next_4]))]) ⟨hx, hb, hml, hown, hts⟩ (c_String_length l D Z kI H.size 16 (by decide)) (cw_String_length hts k_638 ⟨Nat.le_of_ble_eq_true rfl, Nat.le_of_ble_eq_true rfl⟩) hK hZ hP hD hS hA [] [0, 1, 2, 3, 4, 5, 6] (gZ_recv hZ hS (by decide)) rfl rfl (by decide) (by decide) (by decide) rfl hl.1 rfl (Nat.le_of_ble_eq_true rfl) d_Uncoder_unhexLines_45 ⟨Nat.zero_le _, Nat.zero_le _⟩ (fun r_11 u_11 H locs hw hP hD hS => ?_)
            have e_11 := hw
            subst e_11
            have hP : va_P D vwCl [(a1, .inr (5, [.ref a3, .ref a2])), (a3, .inr (0, [.int v3_value, .int v3_held])), (a4, .inr (4, [.ref b4, .int (nI l4.length), .int o4])), (b4, .inl (kI, n4, .inl f4)), (a0, .inr (4, [.ref b0, .int (nI l0.length), .int o0])), (b0, .inl (kI, n0, .inl f0)), (a2, .inr (2, [.int v1_from_4, .int v1_to_4, .int v1_ended_4, .int v1_next_4]))] H := hP
            have hD : va_D A [(a1, .inr (5, [.ref a3, .ref a2])), (a3, .inr (0, [.int v3_value, .int v3_held])), (a4, .inr (4, [.ref b4, .int (nI l4.length), .int o4])), (b4, .inl (kI, n4, .inl f4)), (a0, .inr (4, [.ref b0, .int (nI l0.length), .int o0])), (b0, .inl (kI, n0, .inl f0)), (a2, .inr (2, [.int v1_from_4, .int v1_to_4, .int v1_ended_4, .int v1_next_4]))] := hD
            refine lv_icmp_le (tgt := 68) hx hb d_Uncoder_unhexLines_48 (by decide) (fun c_12 => ?_) (fun c_12 => ?_)
            · rw [if_pos c_12] at hF
              refine lv_iconst (v := 0) hx hb d_Uncoder_unhexLines_68 (by decide) ?_
              refine lv_istore_n (lv' := [(3, .int 0), (0, .ref a1), (1, .ref a0), (2, .ref a4), (4, .int i4)]) hx hb d_Uncoder_unhexLines_69 rfl hl (by decide) rfl (fun ls hl => ?_)
              refine lv_goto (tgt := 88) hx hb d_Uncoder_unhexLines_70 (by decide) ?_
              refine lv_iinc (v := (i4 + 1)) (lv' := [(4, .int (i4 + 1)), (3, .int 0), (0, .ref a1), (1, .ref a0), (2, .ref a4)]) hx hb d_Uncoder_unhexLines_88 hl (k := 4) rfl rfl (by decide) rfl (fun ls hl => ?_)
              refine lv_goto (tgt := 12) hx hb d_Uncoder_unhexLines_91 (by decide) ?_
              exact ih12 0 (i4 + 1) v1_from_4 v1_to_4 v1_ended_4 v1_next_4 v3_value v3_held f4 l4 o4 hr4 _ _ _  (Nat.lt_of_lt_of_le (g_dec1 c_3) (Nat.le_of_lt_succ hn12)) hF (hP.sub [4, 5, 0, 6, 1, 2, 3] rfl) (hD.sub [4, 5, 0, 6, 1, 2, 3] (by decide) rfl) hS (lv_sub hl [2, 3, 4, 1, 0] rfl)
            · rw [if_neg c_12] at hF
              refine lv_aload_n hx hb d_Uncoder_unhexLines_51 rfl (lv_at hl 0 rfl) ?_
              refine va_get (D := D) (ci := 5) (v := .ref a2) (C := "MailCharacters$Uncoder") (T := F_Uncoder) (N := 2) hx hb hts i_Uncoder hown hK hP 0 rfl rfl 1 (by decide) (hts _ k_161) (fun _ h9 => h9) rfl d_Uncoder_unhexLines_52 ?_
              refine lv_aload_n hx hb d_Uncoder_unhexLines_55 rfl (lv_at hl 1 rfl) ?_
              refine va_ldcS hx hb hown (gZ_lit hZ (i := 16) (by decide)) d_Uncoder_unhexLines_56 ?_
              refine g_Vi (As := [.ref a0, .ref (Z.1 16)]) (rest := []) (wr := [(a1, .inr (5, [.ref a3, .ref a2])), (a3, .inr (0, [.int v3_value, .int v3_held])), (a4, .inr (4, [.ref b4, .int (nI l4.length), .int o4])), (b4, .inl (kI, n4, .inl f4))]) ⟨hx, hb, hml, hown, hts⟩ (c_Line_begins l D Z kI a2 a0 b0 n0 H.size v1_from_4 v1_to_4 v1_ended_4 v1_next_4 f0 l0 o0 16 hr0 (by decide)) (cw_Line_begins hts k_639 ⟨Nat.le_of_ble_eq_true rfl, Nat.le_of_ble_eq_true rfl⟩) hK hZ hP hD hS hA [6, 4, 5] [0, 1, 2, 3] (g_recv hK hP (ci := 2) (q0 := 6) rfl rfl) rfl rfl (by decide) (by decide) (by decide) rfl hl.1 rfl (Nat.le_of_ble_eq_true rfl) d_Uncoder_unhexLines_58 ⟨Nat.zero_le _, Nat.zero_le _⟩ (fun r_13 u_13 H locs hw hP hD hS => ?_)
              have e_13 := hw
              subst e_13
              have hP : va_P D vwCl [(a1, .inr (5, [.ref a3, .ref a2])), (a3, .inr (0, [.int v3_value, .int v3_held])), (a4, .inr (4, [.ref b4, .int (nI l4.length), .int o4])), (b4, .inl (kI, n4, .inl f4)), (a2, .inr (2, [.int v1_from_4, .int v1_to_4, .int v1_ended_4, .int v1_next_4])), (a0, .inr (4, [.ref b0, .int (nI l0.length), .int o0])), (b0, .inl (kI, n0, .inl f0))] H := hP
              have hD : va_D A [(a1, .inr (5, [.ref a3, .ref a2])), (a3, .inr (0, [.int v3_value, .int v3_held])), (a4, .inr (4, [.ref b4, .int (nI l4.length), .int o4])), (b4, .inl (kI, n4, .inl f4)), (a2, .inr (2, [.int v1_from_4, .int v1_to_4, .int v1_ended_4, .int v1_next_4])), (a0, .inr (4, [.ref b0, .int (nI l0.length), .int o0])), (b0, .inl (kI, n0, .inl f0))] := hD
              refine lv_if_eq (tgt := 68) hx hb d_Uncoder_unhexLines_61 (by decide) (fun c_14 => ?_) (fun c_14 => ?_)
              · rw [if_pos c_14] at hF
                refine lv_iconst (v := 0) hx hb d_Uncoder_unhexLines_68 (by decide) ?_
                refine lv_istore_n (lv' := [(3, .int 0), (0, .ref a1), (1, .ref a0), (2, .ref a4), (4, .int i4)]) hx hb d_Uncoder_unhexLines_69 rfl hl (by decide) rfl (fun ls hl => ?_)
                refine lv_goto (tgt := 88) hx hb d_Uncoder_unhexLines_70 (by decide) ?_
                refine lv_iinc (v := (i4 + 1)) (lv' := [(4, .int (i4 + 1)), (3, .int 0), (0, .ref a1), (1, .ref a0), (2, .ref a4)]) hx hb d_Uncoder_unhexLines_88 hl (k := 4) rfl rfl (by decide) rfl (fun ls hl => ?_)
                refine lv_goto (tgt := 12) hx hb d_Uncoder_unhexLines_91 (by decide) ?_
                exact ih12 0 (i4 + 1) v1_from_4 v1_to_4 v1_ended_4 v1_next_4 v3_value v3_held f4 l4 o4 hr4 _ _ _  (Nat.lt_of_lt_of_le (g_dec1 c_3) (Nat.le_of_lt_succ hn12)) hF (hP.sub [5, 6, 0, 4, 1, 2, 3] rfl) (hD.sub [5, 6, 0, 4, 1, 2, 3] (by decide) rfl) hS (lv_sub hl [2, 3, 4, 1, 0] rfl)
              · rw [if_neg c_14] at hF
                refine lv_iconst (v := 1) hx hb d_Uncoder_unhexLines_64 (by decide) ?_
                refine lv_goto (tgt := 69) hx hb d_Uncoder_unhexLines_65 (by decide) ?_
                refine lv_istore_n (lv' := [(3, .int 1), (0, .ref a1), (1, .ref a0), (2, .ref a4), (4, .int i4)]) hx hb d_Uncoder_unhexLines_69 rfl hl (by decide) rfl (fun ls hl => ?_)
                refine lv_goto (tgt := 88) hx hb d_Uncoder_unhexLines_70 (by decide) ?_
                refine lv_iinc (v := (i4 + 1)) (lv' := [(4, .int (i4 + 1)), (3, .int 1), (0, .ref a1), (1, .ref a0), (2, .ref a4)]) hx hb d_Uncoder_unhexLines_88 hl (k := 4) rfl rfl (by decide) rfl (fun ls hl => ?_)
                refine lv_goto (tgt := 12) hx hb d_Uncoder_unhexLines_91 (by decide) ?_
                exact ih12 1 (i4 + 1) v1_from_4 v1_to_4 v1_ended_4 v1_next_4 v3_value v3_held f4 l4 o4 hr4 _ _ _  (Nat.lt_of_lt_of_le (g_dec1 c_3) (Nat.le_of_lt_succ hn12)) hF (hP.sub [5, 6, 0, 4, 1, 2, 3] rfl) (hD.sub [5, 6, 0, 4, 1, 2, 3] (by decide) rfl) hS (lv_sub hl [2, 3, 4, 1, 0] rfl)
  have hF := hRES
  rw [m_Uncoder_unhexLines] at hF
  refine lv_iconst (v := 0) hx hb d_Uncoder_unhexLines_0 (by decide) ?_
  refine lv_istore_n (lv' := [(3, .int 0), (0, .ref a1), (1, .ref a0), (2, .ref a4)]) hx hb d_Uncoder_unhexLines_1 rfl hl (by decide) rfl (fun ls hl => ?_)
  refine lv_aload_n hx hb d_Uncoder_unhexLines_2 rfl (lv_at hl 1 rfl) ?_
  refine va_get (D := D) (ci := 5) (v := .ref a2) (C := "MailCharacters$Uncoder") (T := F_Uncoder) (N := 2) hx hb hts i_Uncoder hown hK hP 2 rfl rfl 1 (by decide) (hts _ k_161) (fun _ h9 => h9) rfl d_Uncoder_unhexLines_3 ?_
  refine g_Vv (As := []) (rest := []) (wr := [(a0, .inr (4, [.ref b0, .int (nI l0.length), .int o0])), (b0, .inl (kI, n0, .inl f0)), (a1, .inr (5, [.ref a3, .ref a2])), (a3, .inr (0, [.int v3_value, .int v3_held])), (a4, .inr (4, [.ref b4, .int (nI l4.length), .int o4])), (b4, .inl (kI, n4, .inl f4))]) ⟨hx, hb, hml, hown, hts⟩ (c_Line_goToStart l D Z kI a2 H.size v2_from v2_to v2_ended v2_next) (cw_Line_goToStart hts k_616 ⟨Nat.le_of_ble_eq_true rfl, Nat.le_of_ble_eq_true rfl⟩) hK hZ hP hD hS hA [3] [0, 1, 2, 4, 5, 6] (g_recv hK hP (ci := 2) (q0 := 3) rfl rfl) rfl rfl (by decide) (by decide) (by decide) rfl hl.1 rfl (Nat.le_of_ble_eq_true rfl) d_Uncoder_unhexLines_6 ⟨Nat.zero_le _, Nat.zero_le _⟩ (fun v2_next_15 H locs hw hP hD hS => ?_)
  have e_15 := hw
  subst e_15
  have hP : va_P D vwCl [(a0, .inr (4, [.ref b0, .int (nI l0.length), .int o0])), (b0, .inl (kI, n0, .inl f0)), (a1, .inr (5, [.ref a3, .ref a2])), (a3, .inr (0, [.int v3_value, .int v3_held])), (a4, .inr (4, [.ref b4, .int (nI l4.length), .int o4])), (b4, .inl (kI, n4, .inl f4)), (a2, .inr (2, [.int v2_from, .int v2_to, .int v2_ended, .int m_Line_goToStart]))] H := hP
  have hD : va_D A [(a0, .inr (4, [.ref b0, .int (nI l0.length), .int o0])), (b0, .inl (kI, n0, .inl f0)), (a1, .inr (5, [.ref a3, .ref a2])), (a3, .inr (0, [.int v3_value, .int v3_held])), (a4, .inr (4, [.ref b4, .int (nI l4.length), .int o4])), (b4, .inl (kI, n4, .inl f4)), (a2, .inr (2, [.int v2_from, .int v2_to, .int v2_ended, .int m_Line_goToStart]))] := hD
  refine lv_iconst (v := 0) hx hb d_Uncoder_unhexLines_9 (by decide) ?_
  refine lv_istore (lv' := [(4, .int 0), (3, .int 0), (0, .ref a1), (1, .ref a0), (2, .ref a4)]) hx hb d_Uncoder_unhexLines_10 hl (by decide) rfl (fun ls hl => ?_)
  exact lp12 (((m_Row_size l0).toInt - (0 : Int32).toInt).toNat + 1) 0 0 v2_from v2_to v2_ended m_Line_goToStart v3_value v3_held f4 l4 o4 hr4 _ _ _  (Nat.lt_succ_self _) hF (hP.sub [0, 1, 2, 6, 3, 4, 5] rfl) (hD.sub [0, 1, 2, 6, 3, 4, 5] (by decide) rfl) hS (lv_sub hl [2, 3, 4, 1, 0] rfl)
theorem cw_Uncoder_unhexLines {R : Room} {s : State} {args : Array Value} {own : String} {idx : Nat} (hts : ∀ w ∈ gW, w.before args s = true) (hl : Cond.methodLink own idx y_Uncoder_unhexLines ∈ gW) (hR : rm_Uncoder_unhexLines.frames + 1 ≤ R.frames ∧ 8 + (5 + 11) + rm_Uncoder_unhexLines.locals ≤ R.locals) : CallW R s args own "MailCharacters$Uncoder" idx y_Uncoder_unhexLines b_Uncoder_unhexLines 5 none w_Uncoder_unhexLines rm_Uncoder_unhexLines 0 0 2 := cwV 2 hts (gW_V hl k_631 k_12 k_70 k_632) rfl rfl rfl (by decide +kernel) hR
def m_Writer_writeRun_l34 (n2 : Nat) : Nat → (Int32 → Int32 → Int32 → Int32 → List Int32 → Int32 → List Int32 → Int32 × Int32 × List Int32 × Int32) → Int32 → Int32 → Int32 → Int32 → Int32 → Int32 → List Int32 → Int32 → List Int32 → Int32 × Int32 × List Int32 × Int32
  | 0, _, _, _, _, _, v1_value, v1_held, l2, o2, _ => (v1_value, v1_held, l2, o2)
  | nf34 + 1, k, i3, i5, i6, i7, v1_value, v1_held, l2, o2, l3 =>
    if (m_Writer_unitsOf i6) ≤ i7 then
      k i3 i5 v1_value v1_held l2 o2 l3
    else
      match (m_Bits_add v1_value v1_held (m_Writer_unitOf i6 i7) 16) with
      | (v1_value_10, v1_held_10) =>
        match (m_Writer_putLetters n2 v1_value_10 v1_held_10 l2 o2) with
        | (v3_held_11, l1_11, o1_11) =>
          m_Writer_writeRun_l34 n2 nf34 k i3 i5 i6 (i7 + 1) v1_value_10 v3_held_11 l1_11 o1_11 l3
def m_Writer_writeRun_l17 (n2 : Nat) : Nat → Int32 → Int32 → Int32 → Int32 → List Int32 → Int32 → List Int32 → Int32 × Int32 × List Int32 × Int32
  | 0, _, _, v1_value, v1_held, l2, o2, _ => (v1_value, v1_held, l2, o2)
  | nf17 + 1, i3, i5, v1_value, v1_held, l2, o2, l3 =>
    if i3 ≤ i5 then
      match (m_Bits_fillUp v1_value v1_held 6) with
      | (v1_value_3, v1_held_3) =>
        match (m_Writer_putLetters n2 v1_value_3 v1_held_3 l2 o2) with
        | (v3_held_4, l1_4, o1_4) =>
          match (m_Row_put n2 l1_4 o1_4 45) with
          | (l3_5, o3_5) =>
            (v1_value_3, v3_held_4, l3_5, o3_5)
    else
      m_Writer_writeRun_l34 n2 (((m_Writer_unitsOf (m_Row_get l3 i5)).toInt - (0 : Int32).toInt).toNat + 1) (fun (i3 : Int32) (i5 : Int32) (v1_value : Int32) (v1_held : Int32) (l2 : List Int32) (o2 : Int32) (l3 : List Int32) =>
        m_Writer_writeRun_l17 n2 nf17 i3 (i5 + 1) v1_value v1_held l2 o2 l3) i3 i5 (m_Row_get l3 i5) 0 v1_value v1_held l2 o2 l3
def m_Writer_writeRun (n2 : Nat) (l2 : List Int32) (o2 : Int32) (l3 : List Int32) (p2 : Int32) (p3 : Int32) : Int32 × Int32 × List Int32 × Int32 :=
  match (m_Row_put n2 l2 o2 43) with
  | (l2_12, o2_12) =>
    match m_Bits_clear with
    | (v1_value_13, v1_held_13) =>
      m_Writer_writeRun_l17 n2 ((p3.toInt - p2.toInt).toNat + 1) p3 p2 v1_value_13 v1_held_13 l2_12 o2_12 l3
def rm_Writer_writeRun : Room := { frames := 2, cells := 0, slots := 0, locals := 43 }
set_option maxHeartbeats 4000000 in
set_option maxRecDepth 100000 in
theorem c_Writer_writeRun (l : Launch) (D : va_G) (Z : gZT) (kI : ClassId) (a0 : Nat) (a1 : Nat) (a2 : Nat) (b2 : Nat) (n2 : Nat) (a3 : Nat) (b3 : Nat) (n3 : Nat) (sz : Nat) (v1_value : Int32) (v1_held : Int32) (f2 : Nat → Int32) (l2 : List Int32) (o2 : Int32) (f3 : Nat → Int32) (l3 : List Int32) (o3 : Int32) (p2 : Int32) (p3 : Int32) (hr2 : g_rw n2 f2 l2) (hr3 : g_rw n3 f3 l3) : gMv l y_Writer_writeRun w_Writer_writeRun rm_Writer_writeRun D Z kI [.ref a0, .ref a3, .int p2, .int p3, .ref a2] sz [(a0, .inr (7, [.ref a1])), (a1, .inr (0, [.int v1_value, .int v1_held])), (a2, .inr (4, [.ref b2, .int (nI l2.length), .int o2])), (b2, .inl (kI, n2, .inl f2)), (a3, .inr (4, [.ref b3, .int (nI l3.length), .int o3])), (b3, .inl (kI, n3, .inl f3))] (fun (u : Int32 × Int32 × (Nat → Int32) × List Int32 × Int32) => m_Writer_writeRun n2 l2 o2 l3 p2 p3 = (u.1, u.2.1, u.2.2.2.1, u.2.2.2.2) ∧ g_rw n2 u.2.2.1 u.2.2.2.1) (fun (u : Int32 × Int32 × (Nat → Int32) × List Int32 × Int32) => ([(a0, .inr (7, [.ref a1])), (a1, .inr (0, [.int u.1, .int u.2.1])), (a2, .inr (4, [.ref b2, .int (nI u.2.2.2.1.length), .int u.2.2.2.2])), (b2, .inl (kI, n2, .inl u.2.2.1)), (a3, .inr (4, [.ref b3, .int (nI l3.length), .int o3])), (b3, .inl (kI, n3, .inl f3))] : va_W)) := by
  refine g_ofv (cc := b_Writer_writeRun) (maxL := 8) (by decide) rfl (Nat.le_of_ble_eq_true rfl) ?_
  intro p e s m below meth c A Q H ls hx hb hml hown hts hA hK hZ hP hD hS hl hret
  have hown : s.vm.findClass "MailCharacters$Writer" = some m.cls := hown
  have hl : lv_has ls 8 [(0, .ref a0), (1, .ref a3), (2, .int p2), (3, .int p3), (4, .ref a2)] := hl
  obtain ⟨RES, hRES⟩ : ∃ z, z = m_Writer_writeRun n2 l2 o2 l3 p2 p3 := ⟨_, rfl⟩
  have lp17 : ∀ (nf17 : Nat) (i3 : Int32) (i5 : Int32) (v1_value : Int32) (v1_held : Int32) (f2 : Nat → Int32) (l2 : List Int32) (o2 : Int32) (hr2 : g_rw n2 f2 l2) (H : Heap) (locs : List Loc) (ls : Array Slot), (i3.toInt - i5.toInt).toNat < nf17 → RES = m_Writer_writeRun_l17 n2 nf17 i3 i5 v1_value v1_held l2 o2 l3 → va_P D vwCl [(a0, .inr (7, [.ref a1])), (a1, .inr (0, [.int v1_value, .int v1_held])), (a2, .inr (4, [.ref b2, .int (nI l2.length), .int o2])), (b2, .inl (kI, n2, .inl f2)), (a3, .inr (4, [.ref b3, .int (nI l3.length), .int o3])), (b3, .inl (kI, n3, .inl f3))] H → va_D A [(a0, .inr (7, [.ref a1])), (a1, .inr (0, [.int v1_value, .int v1_held])), (a2, .inr (4, [.ref b2, .int (nI l2.length), .int o2])), (b2, .inl (kI, n2, .inl f2)), (a3, .inr (4, [.ref b3, .int (nI l3.length), .int o3])), (b3, .inl (kI, n3, .inl f3))] → va_S A s.heap H locs → lv_has ls 8 [(0, .ref a0), (1, .ref a3), (3, .int i3), (4, .ref a2), (5, .int i5)] → W p l e rm_Writer_writeRun s m ([.ref a0, .ref a3, .int p2, .int p3, .ref a2] : List Value).toArray below meth c H locs 0 0 Q (F0 m 17 ls []) := by
    intro nf17
    induction nf17 with
    | zero => intro i3 i5 v1_value v1_held f2 l2 o2 hr2 H locs ls hn17; exact absurd hn17 (Nat.not_lt_zero _)
    | succ nf17 ih17 =>
      intro i3 i5 v1_value v1_held f2 l2 o2 hr2 H locs ls hn17 hF hP hD hS hl
      rw [m_Writer_writeRun_l17] at hF
      refine lv_iload hx hb d_Writer_writeRun_17 (lv_at hl 4 rfl) ?_
      refine lv_iload_n hx hb d_Writer_writeRun_19 rfl (lv_at hl 2 rfl) ?_
      refine lv_icmp_ge (tgt := 78) hx hb d_Writer_writeRun_20 (by decide) (fun c_2 => ?_) (fun c_2 => ?_)
      · rw [if_pos c_2] at hF
        refine lv_aload_n hx hb d_Writer_writeRun_78 rfl (lv_at hl 0 rfl) ?_
        refine va_get (D := D) (ci := 7) (v := .ref a1) (C := "MailCharacters$Writer") (T := F_Writer) (N := 1) hx hb hts i_Writer hown hK hP 0 rfl rfl 0 (by decide) (hts _ k_205) (fun _ h9 => h9) rfl d_Writer_writeRun_79 ?_
        refine lv_bipush (v := 6) hx hb d_Writer_writeRun_82 (by decide) ?_
        refine g_Vv (As := [.int 6]) (rest := []) (wr := [(a0, .inr (7, [.ref a1])), (a2, .inr (4, [.ref b2, .int (nI l2.length), .int o2])), (b2, .inl (kI, n2, .inl f2)), (a3, .inr (4, [.ref b3, .int (nI l3.length), .int o3])), (b3, .inl (kI, n3, .inl f3))]) ⟨hx, hb, hml, hown, hts⟩ (c_Bits_fillUp l D Z kI a1 H.size v1_value v1_held 6) (cw_Bits_fillUp hts k_727 ⟨Nat.le_of_ble_eq_true rfl, Nat.le_of_ble_eq_true rfl⟩) hK hZ hP hD hS hA [1] [0, 2, 3, 4, 5] (g_recv hK hP (ci := 0) (q0 := 1) rfl rfl) rfl rfl (by decide) (by decide) (by decide) rfl hl.1 rfl (Nat.le_of_ble_eq_true rfl) d_Writer_writeRun_84 ⟨Nat.zero_le _, Nat.zero_le _⟩ (fun u_3 H locs hw hP hD hS => ?_)
        obtain ⟨v1_value_3, v1_held_3⟩ := u_3
        have e_3 := hw
        have hP : va_P D vwCl [(a0, .inr (7, [.ref a1])), (a2, .inr (4, [.ref b2, .int (nI l2.length), .int o2])), (b2, .inl (kI, n2, .inl f2)), (a3, .inr (4, [.ref b3, .int (nI l3.length), .int o3])), (b3, .inl (kI, n3, .inl f3)), (a1, .inr (0, [.int v1_value_3, .int v1_held_3]))] H := hP
        have hD : va_D A [(a0, .inr (7, [.ref a1])), (a2, .inr (4, [.ref b2, .int (nI l2.length), .int o2])), (b2, .inl (kI, n2, .inl f2)), (a3, .inr (4, [.ref b3, .int (nI l3.length), .int o3])), (b3, .inl (kI, n3, .inl f3)), (a1, .inr (0, [.int v1_value_3, .int v1_held_3]))] := hD
        rw [e_3] at hF; dsimp only at hF
        refine lv_aload_n hx hb d_Writer_writeRun_87 rfl (lv_at hl 0 rfl) ?_
        refine lv_aload hx hb d_Writer_writeRun_88 (lv_at hl 3 rfl) ?_
        refine g_Vv (As := [.ref a2]) (rest := []) (wr := [(a3, .inr (4, [.ref b3, .int (nI l3.length), .int o3])), (b3, .inl (kI, n3, .inl f3))]) ⟨hx, hb, hml, hown, hts⟩ (c_Writer_putLetters l D Z kI a0 a1 a2 b2 n2 H.size v1_value_3 v1_held_3 f2 l2 o2 hr2) (cw_Writer_putLetters hts k_718 ⟨Nat.le_of_ble_eq_true rfl, Nat.le_of_ble_eq_true rfl⟩) hK hZ hP hD hS hA [0, 5, 1, 2] [3, 4] (g_recv hK hP (ci := 7) (q0 := 0) rfl rfl) rfl rfl (by decide) (by decide) (by decide) rfl hl.1 rfl (Nat.le_of_ble_eq_true rfl) d_Writer_writeRun_90 ⟨Nat.zero_le _, Nat.zero_le _⟩ (fun u_4 H locs hw hP hD hS => ?_)
        obtain ⟨v3_held_4, f1_4, l1_4, o1_4⟩ := u_4
        have e_4 := hw.1
        have hr1_4 := hw.2
        have hP : va_P D vwCl [(a3, .inr (4, [.ref b3, .int (nI l3.length), .int o3])), (b3, .inl (kI, n3, .inl f3)), (a0, .inr (7, [.ref a1])), (a1, .inr (0, [.int v1_value_3, .int v3_held_4])), (a2, .inr (4, [.ref b2, .int (nI l1_4.length), .int o1_4])), (b2, .inl (kI, n2, .inl f1_4))] H := hP
        have hD : va_D A [(a3, .inr (4, [.ref b3, .int (nI l3.length), .int o3])), (b3, .inl (kI, n3, .inl f3)), (a0, .inr (7, [.ref a1])), (a1, .inr (0, [.int v1_value_3, .int v3_held_4])), (a2, .inr (4, [.ref b2, .int (nI l1_4.length), .int o1_4])), (b2, .inl (kI, n2, .inl f1_4))] := hD
        rw [e_4] at hF; dsimp only at hF
        refine lv_aload hx hb d_Writer_writeRun_93 (lv_at hl 3 rfl) ?_
        refine lv_bipush (v := 45) hx hb d_Writer_writeRun_95 (by decide) ?_
        refine g_Vv (As := [.int 45]) (rest := []) (wr := [(a3, .inr (4, [.ref b3, .int (nI l3.length), .int o3])), (b3, .inl (kI, n3, .inl f3)), (a0, .inr (7, [.ref a1])), (a1, .inr (0, [.int v1_value_3, .int v3_held_4]))]) ⟨hx, hb, hml, hown, hts⟩ (c_Row_put l D Z kI a2 b2 n2 H.size f1_4 l1_4 o1_4 45 hr1_4) (cw_Row_put hts k_710 ⟨Nat.le_of_ble_eq_true rfl, Nat.le_of_ble_eq_true rfl⟩) hK hZ hP hD hS hA [4, 5] [0, 1, 2, 3] (g_recv hK hP (ci := 4) (q0 := 4) rfl rfl) rfl rfl (by decide) (by decide) (by decide) rfl hl.1 rfl (Nat.le_of_ble_eq_true rfl) d_Writer_writeRun_97 ⟨Nat.zero_le _, Nat.zero_le _⟩ (fun u_5 H locs hw hP hD hS => ?_)
        obtain ⟨f3_5, l3_5, o3_5⟩ := u_5
        have e_5 := hw.1
        have hr3_5 := hw.2
        have hP : va_P D vwCl [(a3, .inr (4, [.ref b3, .int (nI l3.length), .int o3])), (b3, .inl (kI, n3, .inl f3)), (a0, .inr (7, [.ref a1])), (a1, .inr (0, [.int v1_value_3, .int v3_held_4])), (a2, .inr (4, [.ref b2, .int (nI l3_5.length), .int o3_5])), (b2, .inl (kI, n2, .inl f3_5))] H := hP
        have hD : va_D A [(a3, .inr (4, [.ref b3, .int (nI l3.length), .int o3])), (b3, .inl (kI, n3, .inl f3)), (a0, .inr (7, [.ref a1])), (a1, .inr (0, [.int v1_value_3, .int v3_held_4])), (a2, .inr (4, [.ref b2, .int (nI l3_5.length), .int o3_5])), (b2, .inl (kI, n2, .inl f3_5))] := hD
        rw [e_5] at hF; dsimp only at hF
        exact hret (v1_value_3, v3_held_4, f3_5, l3_5, o3_5) _ _ _ _ d_Writer_writeRun_100 (⟨hRES.symm.trans hF, hr3_5⟩) (hP.sub [2, 3, 4, 5, 0, 1] rfl) (hD.sub [2, 3, 4, 5, 0, 1] (by decide) rfl) hS
      · rw [if_neg c_2] at hF
        refine lv_aload_n hx hb d_Writer_writeRun_23 rfl (lv_at hl 1 rfl) ?_
        refine lv_iload hx hb d_Writer_writeRun_24 (lv_at hl 4 rfl) ?_
        refine g_Vi (As := [.int i5]) (rest := []) (wr := [(a0, .inr (7, [.ref a1])), (a1, .inr (0, [.int v1_value, .int v1_held])), (a2, .inr (4, [.ref b2, .int (nI l2.length), .int o2])), (b2, .inl (kI, n2, .inl f2))]) ⟨hx, hb, hml, hown, hts⟩ (c_Row_get l D Z kI a3 b3 n3 H.size f3 l3 o3 i5 hr3) (cw_Row_get hts k_688 ⟨Nat.le_of_ble_eq_true rfl, Nat.le_of_ble_eq_true rfl⟩) hK hZ hP hD hS hA [4, 5] [0, 1, 2, 3] (g_recv hK hP (ci := 4) (q0 := 4) rfl rfl) rfl rfl (by decide) (by decide) (by decide) rfl hl.1 rfl (Nat.le_of_ble_eq_true rfl) d_Writer_writeRun_26 ⟨Nat.zero_le _, Nat.zero_le _⟩ (fun r_6 u_6 H locs hw hP hD hS => ?_)
        have e_6 := hw
        subst e_6
        have hP : va_P D vwCl [(a0, .inr (7, [.ref a1])), (a1, .inr (0, [.int v1_value, .int v1_held])), (a2, .inr (4, [.ref b2, .int (nI l2.length), .int o2])), (b2, .inl (kI, n2, .inl f2)), (a3, .inr (4, [.ref b3, .int (nI l3.length), .int o3])), (b3, .inl (kI, n3, .inl f3))] H := hP
        have hD : va_D A [(a0, .inr (7, [.ref a1])), (a1, .inr (0, [.int v1_value, .int v1_held])), (a2, .inr (4, [.ref b2, .int (nI l2.length), .int o2])), (b2, .inl (kI, n2, .inl f2)), (a3, .inr (4, [.ref b3, .int (nI l3.length), .int o3])), (b3, .inl (kI, n3, .inl f3))] := hD
        refine lv_istore (lv' := [(6, .int (m_Row_get l3 i5)), (0, .ref a0), (1, .ref a3), (3, .int i3), (4, .ref a2), (5, .int i5)]) hx hb d_Writer_writeRun_29 hl (by decide) rfl (fun ls hl => ?_)
        refine lv_iconst (v := 0) hx hb d_Writer_writeRun_31 (by decide) ?_
        refine lv_istore (lv' := [(7, .int 0), (6, .int (m_Row_get l3 i5)), (0, .ref a0), (1, .ref a3), (3, .int i3), (4, .ref a2), (5, .int i5)]) hx hb d_Writer_writeRun_32 hl (by decide) rfl (fun ls hl => ?_)
        have lp34 : ∀ (nf34 : Nat) (i6 : Int32) (i7 : Int32) (v1_value : Int32) (v1_held : Int32) (f2 : Nat → Int32) (l2 : List Int32) (o2 : Int32) (hr2 : g_rw n2 f2 l2) (H : Heap) (locs : List Loc) (ls : Array Slot), ((m_Writer_unitsOf i6).toInt - i7.toInt).toNat < nf34 → RES = m_Writer_writeRun_l34 n2 nf34 (fun (i3 : Int32) (i5 : Int32) (v1_value : Int32) (v1_held : Int32) (l2 : List Int32) (o2 : Int32) (l3 : List Int32) => m_Writer_writeRun_l17 n2 nf17 i3 (i5 + 1) v1_value v1_held l2 o2 l3) i3 i5 i6 i7 v1_value v1_held l2 o2 l3 → va_P D vwCl [(a0, .inr (7, [.ref a1])), (a1, .inr (0, [.int v1_value, .int v1_held])), (a2, .inr (4, [.ref b2, .int (nI l2.length), .int o2])), (b2, .inl (kI, n2, .inl f2)), (a3, .inr (4, [.ref b3, .int (nI l3.length), .int o3])), (b3, .inl (kI, n3, .inl f3))] H → va_D A [(a0, .inr (7, [.ref a1])), (a1, .inr (0, [.int v1_value, .int v1_held])), (a2, .inr (4, [.ref b2, .int (nI l2.length), .int o2])), (b2, .inl (kI, n2, .inl f2)), (a3, .inr (4, [.ref b3, .int (nI l3.length), .int o3])), (b3, .inl (kI, n3, .inl f3))] → va_S A s.heap H locs → lv_has ls 8 [(0, .ref a0), (1, .ref a3), (3, .int i3), (4, .ref a2), (5, .int i5), (6, .int i6), (7, .int i7)] → W p l e rm_Writer_writeRun s m ([.ref a0, .ref a3, .int p2, .int p3, .ref a2] : List Value).toArray below meth c H locs 0 0 Q (F0 m 34 ls []) := by
          intro nf34
          induction nf34 with
          | zero => intro i6 i7 v1_value v1_held f2 l2 o2 hr2 H locs ls hn34; exact absurd hn34 (Nat.not_lt_zero _)
          | succ nf34 ih34 =>
            intro i6 i7 v1_value v1_held f2 l2 o2 hr2 H locs ls hn34 hF hP hD hS hl
            rw [m_Writer_writeRun_l34] at hF
            refine lv_iload hx hb d_Writer_writeRun_34 (lv_at hl 6 rfl) ?_
            refine lv_iload hx hb d_Writer_writeRun_36 (lv_at hl 5 rfl) ?_
            refine g_Si (As := [.int i6]) (rest := [.int i7]) (wr := [(a0, .inr (7, [.ref a1])), (a1, .inr (0, [.int v1_value, .int v1_held])), (a2, .inr (4, [.ref b2, .int (nI l2.length), .int o2])), (b2, .inl (kI, n2, .inl f2)), (a3, .inr (4, [.ref b3, .int (nI l3.length), .int o3])), (b3, .inl (kI, n3, .inl f3))]) ⟨hx, hb, hml, hown, hts⟩ (c_Writer_unitsOf l D Z kI H.size i6) (cw_Writer_unitsOf hts k_699 ⟨Nat.le_of_ble_eq_true rfl, Nat.le_of_ble_eq_true rfl⟩) hK hZ hP hD hS hA [] [0, 1, 2, 3, 4, 5] rfl rfl (by decide) (by decide) (by decide) rfl hl.1 rfl (Nat.le_of_ble_eq_true rfl) d_Writer_writeRun_38 ⟨Nat.zero_le _, Nat.zero_le _⟩ (fun r_7 u_7 H locs hw hP hD hS => ?_)
            have e_7 := hw
            subst e_7
            have hP : va_P D vwCl [(a0, .inr (7, [.ref a1])), (a1, .inr (0, [.int v1_value, .int v1_held])), (a2, .inr (4, [.ref b2, .int (nI l2.length), .int o2])), (b2, .inl (kI, n2, .inl f2)), (a3, .inr (4, [.ref b3, .int (nI l3.length), .int o3])), (b3, .inl (kI, n3, .inl f3))] H := hP
            have hD : va_D A [(a0, .inr (7, [.ref a1])), (a1, .inr (0, [.int v1_value, .int v1_held])), (a2, .inr (4, [.ref b2, .int (nI l2.length), .int o2])), (b2, .inl (kI, n2, .inl f2)), (a3, .inr (4, [.ref b3, .int (nI l3.length), .int o3])), (b3, .inl (kI, n3, .inl f3))] := hD
            refine lv_icmp_ge (tgt := 72) hx hb d_Writer_writeRun_41 (by decide) (fun c_8 => ?_) (fun c_8 => ?_)
            · rw [if_pos c_8] at hF
              try dsimp only at hF
              refine lv_iinc (v := (i5 + 1)) (lv' := [(5, .int (i5 + 1)), (0, .ref a0), (1, .ref a3), (3, .int i3), (4, .ref a2), (6, .int i6), (7, .int i7)]) hx hb d_Writer_writeRun_72 hl (k := 4) rfl rfl (by decide) rfl (fun ls hl => ?_)
              refine lv_goto (tgt := 17) hx hb d_Writer_writeRun_75 (by decide) ?_
              exact ih17 i3 (i5 + 1) v1_value v1_held f2 l2 o2 hr2 _ _ _  (Nat.lt_of_lt_of_le (g_dec1 c_2) (Nat.le_of_lt_succ hn17)) hF hP hD hS (lv_sub hl [1, 2, 3, 4, 0] rfl)
            · rw [if_neg c_8] at hF
              refine lv_aload_n hx hb d_Writer_writeRun_44 rfl (lv_at hl 0 rfl) ?_
              refine va_get (D := D) (ci := 7) (v := .ref a1) (C := "MailCharacters$Writer") (T := F_Writer) (N := 1) hx hb hts i_Writer hown hK hP 0 rfl rfl 0 (by decide) (hts _ k_205) (fun _ h9 => h9) rfl d_Writer_writeRun_45 ?_
              refine lv_iload hx hb d_Writer_writeRun_48 (lv_at hl 5 rfl) ?_
              refine lv_iload hx hb d_Writer_writeRun_50 (lv_at hl 6 rfl) ?_
              refine g_Si (As := [.int i6, .int i7]) (rest := [.ref a1]) (wr := [(a0, .inr (7, [.ref a1])), (a1, .inr (0, [.int v1_value, .int v1_held])), (a2, .inr (4, [.ref b2, .int (nI l2.length), .int o2])), (b2, .inl (kI, n2, .inl f2)), (a3, .inr (4, [.ref b3, .int (nI l3.length), .int o3])), (b3, .inl (kI, n3, .inl f3))]) ⟨hx, hb, hml, hown, hts⟩ (c_Writer_unitOf l D Z kI H.size i6 i7) (cw_Writer_unitOf hts k_712 ⟨Nat.le_of_ble_eq_true rfl, Nat.le_of_ble_eq_true rfl⟩) hK hZ hP hD hS hA [] [0, 1, 2, 3, 4, 5] rfl rfl (by decide) (by decide) (by decide) rfl hl.1 rfl (Nat.le_of_ble_eq_true rfl) d_Writer_writeRun_52 ⟨Nat.zero_le _, Nat.zero_le _⟩ (fun r_9 u_9 H locs hw hP hD hS => ?_)
              have e_9 := hw
              subst e_9
              have hP : va_P D vwCl [(a0, .inr (7, [.ref a1])), (a1, .inr (0, [.int v1_value, .int v1_held])), (a2, .inr (4, [.ref b2, .int (nI l2.length), .int o2])), (b2, .inl (kI, n2, .inl f2)), (a3, .inr (4, [.ref b3, .int (nI l3.length), .int o3])), (b3, .inl (kI, n3, .inl f3))] H := hP
              have hD : va_D A [(a0, .inr (7, [.ref a1])), (a1, .inr (0, [.int v1_value, .int v1_held])), (a2, .inr (4, [.ref b2, .int (nI l2.length), .int o2])), (b2, .inl (kI, n2, .inl f2)), (a3, .inr (4, [.ref b3, .int (nI l3.length), .int o3])), (b3, .inl (kI, n3, .inl f3))] := hD
              refine lv_bipush (v := 16) hx hb d_Writer_writeRun_55 (by decide) ?_
              refine g_Vv (As := [.int (m_Writer_unitOf i6 i7), .int 16]) (rest := []) (wr := [(a0, .inr (7, [.ref a1])), (a2, .inr (4, [.ref b2, .int (nI l2.length), .int o2])), (b2, .inl (kI, n2, .inl f2)), (a3, .inr (4, [.ref b3, .int (nI l3.length), .int o3])), (b3, .inl (kI, n3, .inl f3))]) ⟨hx, hb, hml, hown, hts⟩ (c_Bits_add l D Z kI a1 H.size v1_value v1_held (m_Writer_unitOf i6 i7) 16) (cw_Bits_add hts k_717 ⟨Nat.le_of_ble_eq_true rfl, Nat.le_of_ble_eq_true rfl⟩) hK hZ hP hD hS hA [1] [0, 2, 3, 4, 5] (g_recv hK hP (ci := 0) (q0 := 1) rfl rfl) rfl rfl (by decide) (by decide) (by decide) rfl hl.1 rfl (Nat.le_of_ble_eq_true rfl) d_Writer_writeRun_57 ⟨Nat.zero_le _, Nat.zero_le _⟩ (fun u_10 H locs hw hP hD hS => ?_)
              obtain ⟨v1_value_10, v1_held_10⟩ := u_10
              have e_10 := hw
              have hP : va_P D vwCl [(a0, .inr (7, [.ref a1])), (a2, .inr (4, [.ref b2, .int (nI l2.length), .int o2])), (b2, .inl (kI, n2, .inl f2)), (a3, .inr (4, [.ref b3, .int (nI l3.length), .int o3])), (b3, .inl (kI, n3, .inl f3)), (a1, .inr (0, [.int v1_value_10, .int v1_held_10]))] H := hP
              have hD : va_D A [(a0, .inr (7, [.ref a1])), (a2, .inr (4, [.ref b2, .int (nI l2.length), .int o2])), (b2, .inl (kI, n2, .inl f2)), (a3, .inr (4, [.ref b3, .int (nI l3.length), .int o3])), (b3, .inl (kI, n3, .inl f3)), (a1, .inr (0, [.int v1_value_10, .int v1_held_10]))] := hD
              rw [e_10] at hF; dsimp only at hF
              refine lv_aload_n hx hb d_Writer_writeRun_60 rfl (lv_at hl 0 rfl) ?_
              refine lv_aload hx hb d_Writer_writeRun_61 (lv_at hl 3 rfl) ?_
              refine g_Vv (As := [.ref a2]) (rest := []) (wr := [(a3, .inr (4, [.ref b3, .int (nI l3.length), .int o3])), (b3, .inl (kI, n3, .inl f3))]) ⟨hx, hb, hml, hown, hts⟩ (c_Writer_putLetters l D Z kI a0 a1 a2 b2 n2 H.size v1_value_10 v1_held_10 f2 l2 o2 hr2) (cw_Writer_putLetters hts k_718 ⟨Nat.le_of_ble_eq_true rfl, Nat.le_of_ble_eq_true rfl⟩) hK hZ hP hD hS hA [0, 5, 1, 2] [3, 4] (g_recv hK hP (ci := 7) (q0 := 0) rfl rfl) rfl rfl (by decide) (by decide) (by decide) rfl hl.1 rfl (Nat.le_of_ble_eq_true rfl) d_Writer_writeRun_63 ⟨Nat.zero_le _, Nat.zero_le _⟩ (fun u_11 H locs hw hP hD hS => ?_)
              obtain ⟨v3_held_11, f1_11, l1_11, o1_11⟩ := u_11
              have e_11 := hw.1
              have hr1_11 := hw.2
              have hP : va_P D vwCl [(a3, .inr (4, [.ref b3, .int (nI l3.length), .int o3])), (b3, .inl (kI, n3, .inl f3)), (a0, .inr (7, [.ref a1])), (a1, .inr (0, [.int v1_value_10, .int v3_held_11])), (a2, .inr (4, [.ref b2, .int (nI l1_11.length), .int o1_11])), (b2, .inl (kI, n2, .inl f1_11))] H := hP
              have hD : va_D A [(a3, .inr (4, [.ref b3, .int (nI l3.length), .int o3])), (b3, .inl (kI, n3, .inl f3)), (a0, .inr (7, [.ref a1])), (a1, .inr (0, [.int v1_value_10, .int v3_held_11])), (a2, .inr (4, [.ref b2, .int (nI l1_11.length), .int o1_11])), (b2, .inl (kI, n2, .inl f1_11))] := hD
              rw [e_11] at hF; dsimp only at hF
              refine lv_iinc (v := (i7 + 1)) (lv' := [(7, .int (i7 + 1)), (0, .ref a0), (1, .ref a3), (3, .int i3), (4, .ref a2), (5, .int i5), (6, .int i6)]) hx hb d_Writer_writeRun_66 hl (k := 6) rfl rfl (by decide) rfl (fun ls hl => ?_)
              refine lv_goto (tgt := 34) hx hb d_Writer_writeRun_69 (by decide) ?_
              exact ih34 i6 (i7 + 1) v1_value_10 v3_held_11 f1_11 l1_11 o1_11 hr1_11 _ _ _  (Nat.lt_of_lt_of_le (g_dec1 c_8) (Nat.le_of_lt_succ hn34)) hF (hP.sub [2, 3, 4, 5, 0, 1] rfl) (hD.sub [2, 3, 4, 5, 0, 1] (by decide) rfl) hS (lv_sub hl [1, 2, 3, 4, 5, 6, 0] rfl)
        exact lp34 (((m_Writer_unitsOf (m_Row_get l3 i5)).toInt - (0 : Int32).toInt).toNat + 1) (m_Row_get l3 i5) 0 v1_value v1_held f2 l2 o2 hr2 _ _ _  (Nat.lt_succ_self _) hF hP hD hS (lv_sub hl [2, 3, 4, 5, 6, 1, 0] rfl)
  have hF := hRES
  rw [m_Writer_writeRun] at hF
  refine lv_aload hx hb d_Writer_writeRun_0 (lv_at hl 4 rfl) ?_
  refine lv_bipush (v := 43) hx hb d_Writer_writeRun_2 (by decide) ?_
  refine g_Vv (As := [.int 43]) (rest := []) (wr := [(a0, .inr (7, [.ref a1])), (a1, .inr (0, [.int v1_value, .int v1_held])), (a3, .inr (4, [.ref b3, .int (nI l3.length), .int o3])), (b3, .inl (kI, n3, .inl f3))]) ⟨hx, hb, hml, hown, hts⟩ (c_Row_put l D Z kI a2 b2 n2 H.size f2 l2 o2 43 hr2) (cw_Row_put hts k_710 ⟨Nat.le_of_ble_eq_true rfl, Nat.le_of_ble_eq_true rfl⟩) hK hZ hP hD hS hA [2, 3] [0, 1, 4, 5] (g_recv hK hP (ci := 4) (q0 := 2) rfl rfl) rfl rfl (by decide) (by decide) (by decide) rfl hl.1 rfl (Nat.le_of_ble_eq_true rfl) d_Writer_writeRun_4 ⟨Nat.zero_le _, Nat.zero_le _⟩ (fun u_12 H locs hw hP hD hS => ?_)
  obtain ⟨f2_12, l2_12, o2_12⟩ := u_12
  have e_12 := hw.1
  have hr2_12 := hw.2
  have hP : va_P D vwCl [(a0, .inr (7, [.ref a1])), (a1, .inr (0, [.int v1_value, .int v1_held])), (a3, .inr (4, [.ref b3, .int (nI l3.length), .int o3])), (b3, .inl (kI, n3, .inl f3)), (a2, .inr (4, [.ref b2, .int (nI l2_12.length), .int o2_12])), (b2, .inl (kI, n2, .inl f2_12))] H := hP
  have hD : va_D A [(a0, .inr (7, [.ref a1])), (a1, .inr (0, [.int v1_value, .int v1_held])), (a3, .inr (4, [.ref b3, .int (nI l3.length), .int o3])), (b3, .inl (kI, n3, .inl f3)), (a2, .inr (4, [.ref b2, .int (nI l2_12.length), .int o2_12])), (b2, .inl (kI, n2, .inl f2_12))] := hD
  rw [e_12] at hF; dsimp only at hF
  refine lv_aload_n hx hb d_Writer_writeRun_7 rfl (lv_at hl 0 rfl) ?_
  refine va_get (D := D) (ci := 7) (v := .ref a1) (C := "MailCharacters$Writer") (T := F_Writer) (N := 1) hx hb hts i_Writer hown hK hP 0 rfl rfl 0 (by decide) (hts _ k_205) (fun _ h9 => h9) rfl d_Writer_writeRun_8 ?_
  refine g_Vv (As := []) (rest := []) (wr := [(a0, .inr (7, [.ref a1])), (a3, .inr (4, [.ref b3, .int (nI l3.length), .int o3])), (b3, .inl (kI, n3, .inl f3)), (a2, .inr (4, [.ref b2, .int (nI l2_12.length), .int o2_12])), (b2, .inl (kI, n2, .inl f2_12))]) ⟨hx, hb, hml, hown, hts⟩ (c_Bits_clear l D Z kI a1 H.size v1_value v1_held) (cw_Bits_clear hts k_711 ⟨Nat.le_of_ble_eq_true rfl, Nat.le_of_ble_eq_true rfl⟩) hK hZ hP hD hS hA [1] [0, 2, 3, 4, 5] (g_recv hK hP (ci := 0) (q0 := 1) rfl rfl) rfl rfl (by decide) (by decide) (by decide) rfl hl.1 rfl (Nat.le_of_ble_eq_true rfl) d_Writer_writeRun_11 ⟨Nat.zero_le _, Nat.zero_le _⟩ (fun u_13 H locs hw hP hD hS => ?_)
  obtain ⟨v1_value_13, v1_held_13⟩ := u_13
  have e_13 := hw
  have hP : va_P D vwCl [(a0, .inr (7, [.ref a1])), (a3, .inr (4, [.ref b3, .int (nI l3.length), .int o3])), (b3, .inl (kI, n3, .inl f3)), (a2, .inr (4, [.ref b2, .int (nI l2_12.length), .int o2_12])), (b2, .inl (kI, n2, .inl f2_12)), (a1, .inr (0, [.int v1_value_13, .int v1_held_13]))] H := hP
  have hD : va_D A [(a0, .inr (7, [.ref a1])), (a3, .inr (4, [.ref b3, .int (nI l3.length), .int o3])), (b3, .inl (kI, n3, .inl f3)), (a2, .inr (4, [.ref b2, .int (nI l2_12.length), .int o2_12])), (b2, .inl (kI, n2, .inl f2_12)), (a1, .inr (0, [.int v1_value_13, .int v1_held_13]))] := hD
  rw [e_13] at hF; dsimp only at hF
  refine lv_iload_n hx hb d_Writer_writeRun_14 rfl (lv_at hl 2 rfl) ?_
  refine lv_istore (lv' := [(5, .int p2), (0, .ref a0), (1, .ref a3), (2, .int p2), (3, .int p3), (4, .ref a2)]) hx hb d_Writer_writeRun_15 hl (by decide) rfl (fun ls hl => ?_)
  exact lp17 ((p3.toInt - p2.toInt).toNat + 1) p3 p2 v1_value_13 v1_held_13 f2_12 l2_12 o2_12 hr2_12 _ _ _  (Nat.lt_succ_self _) hF (hP.sub [0, 5, 3, 4, 1, 2] rfl) (hD.sub [0, 5, 3, 4, 1, 2] (by decide) rfl) hS (lv_sub hl [1, 2, 4, 5, 0] rfl)
theorem cw_Writer_writeRun {R : Room} {s : State} {args : Array Value} {own : String} {idx : Nat} (hts : ∀ w ∈ gW, w.before args s = true) (hl : Cond.methodLink own idx y_Writer_writeRun ∈ gW) (hR : rm_Writer_writeRun.frames + 1 ≤ R.frames ∧ 8 + (8 + 11) + rm_Writer_writeRun.locals ≤ R.locals) : CallW R s args own "MailCharacters$Writer" idx y_Writer_writeRun b_Writer_writeRun 8 none w_Writer_writeRun rm_Writer_writeRun 0 0 4 := cwV 4 hts (gW_V hl k_708 k_17 k_75 k_709) rfl rfl rfl (by decide +kernel) hR
def m_SingleBytes_byteOf (p0 : Int32) (p1 : Int32) : Int32 :=
  if 128 ≤ p1 then
    if p0 = 1 then
      if 256 ≤ p1 then
        63
      else
        p1
    else
      if p0 = 2 then
        (m_SingleBytes_latin9ByteOf p1)
      else
        if p0 = 3 then
          (m_SingleBytes_windowsByteOf p1)
        else
          if p0 = 4 then
            63
          else
            if p0 = 5 then
              63
            else
              if p0 = 6 then
                63
              else
                if p0 = 7 then
                  63
                else
                  if p0 = 8 then
                    (m_SingleBytes_koiByteOf p1)
                  else
                    63
  else
    p1
def rm_SingleBytes_byteOf : Room := { frames := 2, cells := 0, slots := 0, locals := 44 }
set_option maxHeartbeats 4000000 in
set_option maxRecDepth 100000 in
theorem c_SingleBytes_byteOf (l : Launch) (D : va_G) (Z : gZT) (kI : ClassId) (sz : Nat) (p0 : Int32) (p1 : Int32) : gMi l y_SingleBytes_byteOf w_SingleBytes_byteOf rm_SingleBytes_byteOf D Z kI [.int p0, .int p1] sz [] (fun (r : Int32) (_u : Unit) => m_SingleBytes_byteOf p0 p1 = r) (fun (_u : Unit) => ([] : va_W)) := by
  refine g_ofi (cc := b_SingleBytes_byteOf) (maxL := 2) (ty := .int) (by decide) rfl (Nat.le_of_ble_eq_true rfl) ?_
  intro p e s m below meth c A Q H ls hx hb hml hown hts hA hK hZ hP hD hS hl hret
  have hown : s.vm.findClass "MailCharacters$SingleBytes" = some m.cls := hown
  have hl : lv_has ls 2 [(0, .int p0), (1, .int p1)] := hl
  obtain ⟨RES, hRES⟩ : ∃ z, z = m_SingleBytes_byteOf p0 p1 := ⟨_, rfl⟩
  have hF := hRES
  rw [m_SingleBytes_byteOf] at hF
  refine lv_iload_n hx hb d_SingleBytes_byteOf_0 rfl (lv_at hl 1 rfl) ?_
  refine lv_sipush (v := 128) hx hb d_SingleBytes_byteOf_1 (by decide) ?_
  refine lv_icmp_ge (tgt := 9) hx hb d_SingleBytes_byteOf_4 (by decide) (fun c_1 => ?_) (fun c_1 => ?_)
  · rw [if_pos c_1] at hF
    refine lv_iload_n hx hb d_SingleBytes_byteOf_9 rfl (lv_at hl 0 rfl) ?_
    by_cases c_2 : p0 = 1
    · rw [if_pos c_2] at hF
      refine lv_tableIn (off := 46) (tgt := 56) hx hb d_SingleBytes_byteOf_10 (by rw [c_2]; decide) (by rw [c_2]; decide) (by rw [c_2]; decide) (by decide) ?_
      refine lv_iload_n hx hb d_SingleBytes_byteOf_56 rfl (lv_at hl 1 rfl) ?_
      refine lv_sipush (v := 256) hx hb d_SingleBytes_byteOf_57 (by decide) ?_
      refine lv_icmp_ge (tgt := 67) hx hb d_SingleBytes_byteOf_60 (by decide) (fun c_3 => ?_) (fun c_3 => ?_)
      · rw [if_pos c_3] at hF
        refine lv_bipush (v := 63) hx hb d_SingleBytes_byteOf_67 (by decide) ?_
        exact hret 63 () _ _ _ _ d_SingleBytes_byteOf_69 rfl (hRES.symm.trans hF) hP hD hS
      · rw [if_neg c_3] at hF
        refine lv_iload_n hx hb d_SingleBytes_byteOf_63 rfl (lv_at hl 1 rfl) ?_
        refine lv_goto (tgt := 69) hx hb d_SingleBytes_byteOf_64 (by decide) ?_
        exact hret p1 () _ _ _ _ d_SingleBytes_byteOf_69 rfl (hRES.symm.trans hF) hP hD hS
    rw [if_neg c_2] at hF
    by_cases c_4 : p0 = 2
    · rw [if_pos c_4] at hF
      refine lv_tableIn (off := 60) (tgt := 70) hx hb d_SingleBytes_byteOf_10 (by rw [c_4]; decide) (by rw [c_4]; decide) (by rw [c_4]; decide) (by decide) ?_
      refine lv_iload_n hx hb d_SingleBytes_byteOf_70 rfl (lv_at hl 1 rfl) ?_
      refine g_Si (As := [.int p1]) (rest := []) (wr := []) ⟨hx, hb, hml, hown, hts⟩ (c_SingleBytes_latin9ByteOf l D Z kI H.size p1) (cw_SingleBytes_latin9ByteOf hts k_753 ⟨Nat.le_of_ble_eq_true rfl, Nat.le_of_ble_eq_true rfl⟩) hK hZ hP hD hS hA [] [] rfl rfl (by decide) (by decide) (by decide) rfl hl.1 rfl (Nat.le_of_ble_eq_true rfl) d_SingleBytes_byteOf_71 ⟨Nat.zero_le _, Nat.zero_le _⟩ (fun r_5 u_5 H locs hw hP hD hS => ?_)
      have e_5 := hw
      subst e_5
      have hP : va_P D vwCl [] H := hP
      have hD : va_D A [] := hD
      exact hret (m_SingleBytes_latin9ByteOf p1) () _ _ _ _ d_SingleBytes_byteOf_74 rfl (hRES.symm.trans hF) hP hD hS
    rw [if_neg c_4] at hF
    by_cases c_6 : p0 = 3
    · rw [if_pos c_6] at hF
      refine lv_tableIn (off := 65) (tgt := 75) hx hb d_SingleBytes_byteOf_10 (by rw [c_6]; decide) (by rw [c_6]; decide) (by rw [c_6]; decide) (by decide) ?_
      refine lv_iload_n hx hb d_SingleBytes_byteOf_75 rfl (lv_at hl 1 rfl) ?_
      refine g_Si (As := [.int p1]) (rest := []) (wr := []) ⟨hx, hb, hml, hown, hts⟩ (c_SingleBytes_windowsByteOf l D Z kI H.size p1) (cw_SingleBytes_windowsByteOf hts k_756 ⟨Nat.le_of_ble_eq_true rfl, Nat.le_of_ble_eq_true rfl⟩) hK hZ hP hD hS hA [] [] rfl rfl (by decide) (by decide) (by decide) rfl hl.1 rfl (Nat.le_of_ble_eq_true rfl) d_SingleBytes_byteOf_76 ⟨Nat.zero_le _, Nat.zero_le _⟩ (fun r_7 u_7 H locs hw hP hD hS => ?_)
      have e_7 := hw
      subst e_7
      have hP : va_P D vwCl [] H := hP
      have hD : va_D A [] := hD
      exact hret (m_SingleBytes_windowsByteOf p1) () _ _ _ _ d_SingleBytes_byteOf_79 rfl (hRES.symm.trans hF) hP hD hS
    rw [if_neg c_6] at hF
    by_cases c_8 : p0 = 4
    · rw [if_pos c_8] at hF
      refine lv_tableIn (off := 75) (tgt := 85) hx hb d_SingleBytes_byteOf_10 (by rw [c_8]; decide) (by rw [c_8]; decide) (by rw [c_8]; decide) (by decide) ?_
      refine lv_bipush (v := 63) hx hb d_SingleBytes_byteOf_85 (by decide) ?_
      exact hret 63 () _ _ _ _ d_SingleBytes_byteOf_87 rfl (hRES.symm.trans hF) hP hD hS
    rw [if_neg c_8] at hF
    by_cases c_9 : p0 = 5
    · rw [if_pos c_9] at hF
      refine lv_tableIn (off := 75) (tgt := 85) hx hb d_SingleBytes_byteOf_10 (by rw [c_9]; decide) (by rw [c_9]; decide) (by rw [c_9]; decide) (by decide) ?_
      refine lv_bipush (v := 63) hx hb d_SingleBytes_byteOf_85 (by decide) ?_
      exact hret 63 () _ _ _ _ d_SingleBytes_byteOf_87 rfl (hRES.symm.trans hF) hP hD hS
    rw [if_neg c_9] at hF
    by_cases c_10 : p0 = 6
    · rw [if_pos c_10] at hF
      refine lv_tableIn (off := 75) (tgt := 85) hx hb d_SingleBytes_byteOf_10 (by rw [c_10]; decide) (by rw [c_10]; decide) (by rw [c_10]; decide) (by decide) ?_
      refine lv_bipush (v := 63) hx hb d_SingleBytes_byteOf_85 (by decide) ?_
      exact hret 63 () _ _ _ _ d_SingleBytes_byteOf_87 rfl (hRES.symm.trans hF) hP hD hS
    rw [if_neg c_10] at hF
    by_cases c_11 : p0 = 7
    · rw [if_pos c_11] at hF
      refine lv_tableIn (off := 75) (tgt := 85) hx hb d_SingleBytes_byteOf_10 (by rw [c_11]; decide) (by rw [c_11]; decide) (by rw [c_11]; decide) (by decide) ?_
      refine lv_bipush (v := 63) hx hb d_SingleBytes_byteOf_85 (by decide) ?_
      exact hret 63 () _ _ _ _ d_SingleBytes_byteOf_87 rfl (hRES.symm.trans hF) hP hD hS
    rw [if_neg c_11] at hF
    by_cases c_12 : p0 = 8
    · rw [if_pos c_12] at hF
      refine lv_tableIn (off := 70) (tgt := 80) hx hb d_SingleBytes_byteOf_10 (by rw [c_12]; decide) (by rw [c_12]; decide) (by rw [c_12]; decide) (by decide) ?_
      refine lv_iload_n hx hb d_SingleBytes_byteOf_80 rfl (lv_at hl 1 rfl) ?_
      refine g_Si (As := [.int p1]) (rest := []) (wr := []) ⟨hx, hb, hml, hown, hts⟩ (c_SingleBytes_koiByteOf l D Z kI H.size p1) (cw_SingleBytes_koiByteOf hts k_762 ⟨Nat.le_of_ble_eq_true rfl, Nat.le_of_ble_eq_true rfl⟩) hK hZ hP hD hS hA [] [] rfl rfl (by decide) (by decide) (by decide) rfl hl.1 rfl (Nat.le_of_ble_eq_true rfl) d_SingleBytes_byteOf_81 ⟨Nat.zero_le _, Nat.zero_le _⟩ (fun r_13 u_13 H locs hw hP hD hS => ?_)
      have e_13 := hw
      subst e_13
      have hP : va_P D vwCl [] H := hP
      have hD : va_D A [] := hD
      exact hret (m_SingleBytes_koiByteOf p1) () _ _ _ _ d_SingleBytes_byteOf_84 rfl (hRES.symm.trans hF) hP hD hS
    rw [if_neg c_12] at hF
    refine lv_tableOut (tgt := 85) hx hb d_SingleBytes_byteOf_10 (by have := lv_neT c_2 (a := 1) (by decide); have := lv_neT c_4 (a := 2) (by decide); have := lv_neT c_6 (a := 3) (by decide); have := lv_neT c_8 (a := 4) (by decide); have := lv_neT c_9 (a := 5) (by decide); have := lv_neT c_10 (a := 6) (by decide); have := lv_neT c_11 (a := 7) (by decide); have := lv_neT c_12 (a := 8) (by decide); omega) (by decide) ?_
    refine lv_bipush (v := 63) hx hb d_SingleBytes_byteOf_85 (by decide) ?_
    exact hret 63 () _ _ _ _ d_SingleBytes_byteOf_87 rfl (hRES.symm.trans hF) hP hD hS
  · rw [if_neg c_1] at hF
    refine lv_iload_n hx hb d_SingleBytes_byteOf_7 rfl (lv_at hl 1 rfl) ?_
    exact hret p1 () _ _ _ _ d_SingleBytes_byteOf_8 rfl (hRES.symm.trans hF) hP hD hS
theorem cw_SingleBytes_byteOf {R : Room} {s : State} {args : Array Value} {own : String} {idx : Nat} (hts : ∀ w ∈ gW, w.before args s = true) (hl : Cond.methodLink own idx y_SingleBytes_byteOf ∈ gW) (hR : rm_SingleBytes_byteOf.frames + 1 ≤ R.frames ∧ 8 + (2 + 11) + rm_SingleBytes_byteOf.locals ≤ R.locals) : CallB R s args own idx y_SingleBytes_byteOf b_SingleBytes_byteOf 2 (some .int) w_SingleBytes_byteOf rm_SingleBytes_byteOf 0 0 2 ∧ (Cond.static y_SingleBytes_byteOf).before args s = true := va_cwS 2 hts (gW_S hl k_751 k_88 k_752) rfl rfl rfl (by decide +kernel) hR
def m_Coder_base_l99 (n1 : Nat) : Nat → Int32 → Int32 → List Int32 → Int32 → Int32 → Int32 → Int32 → List Int32 × Int32 × Int32 × Int32 × Int32
  | 0, _, _, l1, o1, v2_inLine, v3_value, v3_held => (l1, o1, v2_inLine, v3_value, v3_held)
  | nf99 + 1, i3, i4, l1, o1, v2_inLine, v3_value, v3_held =>
    if i3 ≤ i4 then
      (l1, o1, v2_inLine, v3_value, v3_held)
    else
      match (m_Row_put n1 l1 o1 61) with
      | (l1_3, o1_3) =>
        m_Coder_base_l99 n1 nf99 i3 (i4 + 1) l1_3 o1_3 v2_inLine v3_value v3_held
def m_Coder_base_l9 (n1 : Nat) : Nat → Int32 → List Int32 → List Int32 → Int32 → Int32 → Int32 → Int32 → List Int32 × Int32 × Int32 × Int32 × Int32
  | 0, _, _, l1, o1, v2_inLine, v3_value, v3_held => (l1, o1, v2_inLine, v3_value, v3_held)
  | nf9 + 1, i3, l0, l1, o1, v2_inLine, v3_value, v3_held =>
    if (m_Row_size l0) ≤ i3 then
      match (m_Bits_fillUp v3_value v3_held 6) with
      | (v2_value_6, v2_held_6) =>
        if (m_Bits_has v2_held_6 6) = 0 then
          m_Coder_base_l99 n1 ((((4 - (v2_inLine - v2_inLine / 4 * 4)) - (4 - (v2_inLine - v2_inLine / 4 * 4)) / 4 * 4).toInt - (0 : Int32).toInt).toNat + 1) ((4 - (v2_inLine - v2_inLine / 4 * 4)) - (4 - (v2_inLine - v2_inLine / 4 * 4)) / 4 * 4) 0 l1 o1 v2_inLine v2_value_6 v2_held_6
        else
          match (m_Coder_putLetter n1 v2_inLine v2_value_6 v2_held_6 l1 o1) with
          | (v1_inLine_9, v3_held_9, l0_9, o0_9) =>
            m_Coder_base_l99 n1 ((((4 - (v1_inLine_9 - v1_inLine_9 / 4 * 4)) - (4 - (v1_inLine_9 - v1_inLine_9 / 4 * 4)) / 4 * 4).toInt - (0 : Int32).toInt).toNat + 1) ((4 - (v1_inLine_9 - v1_inLine_9 / 4 * 4)) - (4 - (v1_inLine_9 - v1_inLine_9 / 4 * 4)) / 4 * 4) 0 l0_9 o0_9 v1_inLine_9 v2_value_6 v3_held_9
    else
      match (m_Bits_add v3_value v3_held (m_Row_get l0 i3) 8) with
      | (v2_value_11, v2_held_11) =>
        match (m_Coder_putLetter n1 v2_inLine v2_value_11 v2_held_11 l1 o1) with
        | (v1_inLine_12, v3_held_12, l0_12, o0_12) =>
          if (m_Bits_has v3_held_12 6) = 0 then
            m_Coder_base_l9 n1 nf9 (i3 + 1) l0 l0_12 o0_12 v1_inLine_12 v2_value_11 v3_held_12
          else
            match (m_Coder_putLetter n1 v1_inLine_12 v2_value_11 v3_held_12 l0_12 o0_12) with
            | (v1_inLine_15, v3_held_15, l2_15, o2_15) =>
              m_Coder_base_l9 n1 nf9 (i3 + 1) l0 l2_15 o2_15 v1_inLine_15 v2_value_11 v3_held_15
def m_Coder_base (n1 : Nat) (l0 : List Int32) (l1 : List Int32) (o1 : Int32) (v2_inLine : Int32) : List Int32 × Int32 × Int32 × Int32 × Int32 :=
  match m_Bits_clear with
  | (v3_value_16, v3_held_16) =>
    m_Coder_base_l9 n1 (((m_Row_size l0).toInt - (0 : Int32).toInt).toNat + 1) 0 l0 l1 o1 v2_inLine v3_value_16 v3_held_16
def rm_Coder_base : Room := { frames := 3, cells := 0, slots := 0, locals := 63 }
set_option maxHeartbeats 4000000 in
set_option maxRecDepth 100000 in
theorem c_Coder_base (l : Launch) (D : va_G) (Z : gZT) (kI : ClassId) (a0 : Nat) (b0 : Nat) (n0 : Nat) (a1 : Nat) (b1 : Nat) (n1 : Nat) (a2 : Nat) (a3 : Nat) (sz : Nat) (f0 : Nat → Int32) (l0 : List Int32) (o0 : Int32) (f1 : Nat → Int32) (l1 : List Int32) (o1 : Int32) (v2_inLine : Int32) (v3_value : Int32) (v3_held : Int32) (hr0 : g_rw n0 f0 l0) (hr1 : g_rw n1 f1 l1) : gMv l y_Coder_base w_Coder_base rm_Coder_base D Z kI [.ref a2, .ref a0, .ref a1] sz [(a0, .inr (4, [.ref b0, .int (nI l0.length), .int o0])), (b0, .inl (kI, n0, .inl f0)), (a1, .inr (4, [.ref b1, .int (nI l1.length), .int o1])), (b1, .inl (kI, n1, .inl f1)), (a2, .inr (1, [.ref a3, .int v2_inLine])), (a3, .inr (0, [.int v3_value, .int v3_held]))] (fun (u : (Nat → Int32) × List Int32 × Int32 × Int32 × Int32 × Int32) => m_Coder_base n1 l0 l1 o1 v2_inLine = (u.2.1, u.2.2.1, u.2.2.2.1, u.2.2.2.2.1, u.2.2.2.2.2) ∧ g_rw n1 u.1 u.2.1) (fun (u : (Nat → Int32) × List Int32 × Int32 × Int32 × Int32 × Int32) => ([(a0, .inr (4, [.ref b0, .int (nI l0.length), .int o0])), (b0, .inl (kI, n0, .inl f0)), (a1, .inr (4, [.ref b1, .int (nI u.2.1.length), .int u.2.2.1])), (b1, .inl (kI, n1, .inl u.1)), (a2, .inr (1, [.ref a3, .int u.2.2.2.1])), (a3, .inr (0, [.int u.2.2.2.2.1, .int u.2.2.2.2.2]))] : va_W)) := by
  refine g_ofv (cc := b_Coder_base) (maxL := 5) (by decide) rfl (Nat.le_of_ble_eq_true rfl) ?_
  intro p e s m below meth c A Q H ls hx hb hml hown hts hA hK hZ hP hD hS hl hret
  have hown : s.vm.findClass "MailCharacters$Coder" = some m.cls := hown
  have hl : lv_has ls 5 [(0, .ref a2), (1, .ref a0), (2, .ref a1)] := hl
  obtain ⟨RES, hRES⟩ : ∃ z, z = m_Coder_base n1 l0 l1 o1 v2_inLine := ⟨_, rfl⟩
  have lp99 : ∀ (nf99 : Nat) (i3 : Int32) (i4 : Int32) (f1 : Nat → Int32) (l1 : List Int32) (o1 : Int32) (v2_inLine : Int32) (v3_value : Int32) (v3_held : Int32) (hr1 : g_rw n1 f1 l1) (H : Heap) (locs : List Loc) (ls : Array Slot), (i3.toInt - i4.toInt).toNat < nf99 → RES = m_Coder_base_l99 n1 nf99 i3 i4 l1 o1 v2_inLine v3_value v3_held → va_P D vwCl [(a0, .inr (4, [.ref b0, .int (nI l0.length), .int o0])), (b0, .inl (kI, n0, .inl f0)), (a1, .inr (4, [.ref b1, .int (nI l1.length), .int o1])), (b1, .inl (kI, n1, .inl f1)), (a2, .inr (1, [.ref a3, .int v2_inLine])), (a3, .inr (0, [.int v3_value, .int v3_held]))] H → va_D A [(a0, .inr (4, [.ref b0, .int (nI l0.length), .int o0])), (b0, .inl (kI, n0, .inl f0)), (a1, .inr (4, [.ref b1, .int (nI l1.length), .int o1])), (b1, .inl (kI, n1, .inl f1)), (a2, .inr (1, [.ref a3, .int v2_inLine])), (a3, .inr (0, [.int v3_value, .int v3_held]))] → va_S A s.heap H locs → lv_has ls 5 [(2, .ref a1), (3, .int i3), (4, .int i4)] → W p l e rm_Coder_base s m ([.ref a2, .ref a0, .ref a1] : List Value).toArray below meth c H locs 0 0 Q (F0 m 99 ls []) := by
    intro nf99
    induction nf99 with
    | zero => intro i3 i4 f1 l1 o1 v2_inLine v3_value v3_held hr1 H locs ls hn99; exact absurd hn99 (Nat.not_lt_zero _)
    | succ nf99 ih99 =>
      intro i3 i4 f1 l1 o1 v2_inLine v3_value v3_held hr1 H locs ls hn99 hF hP hD hS hl
      rw [m_Coder_base_l99] at hF
      refine lv_iload hx hb d_Coder_base_99 (lv_at hl 2 rfl) ?_
      refine lv_iload_n hx hb d_Coder_base_101 rfl (lv_at hl 1 rfl) ?_
      refine lv_icmp_ge (tgt := 117) hx hb d_Coder_base_102 (by decide) (fun c_2 => ?_) (fun c_2 => ?_)
      · rw [if_pos c_2] at hF
        exact hret (f1, l1, o1, v2_inLine, v3_value, v3_held) _ _ _ _ d_Coder_base_117 (⟨hRES.symm.trans hF, hr1⟩) hP hD hS
      · rw [if_neg c_2] at hF
        refine lv_aload_n hx hb d_Coder_base_105 rfl (lv_at hl 0 rfl) ?_
        refine lv_bipush (v := 61) hx hb d_Coder_base_106 (by decide) ?_
        refine g_Vv (As := [.int 61]) (rest := []) (wr := [(a0, .inr (4, [.ref b0, .int (nI l0.length), .int o0])), (b0, .inl (kI, n0, .inl f0)), (a2, .inr (1, [.ref a3, .int v2_inLine])), (a3, .inr (0, [.int v3_value, .int v3_held]))]) ⟨hx, hb, hml, hown, hts⟩ (c_Row_put l D Z kI a1 b1 n1 H.size f1 l1 o1 61 hr1) (cw_Row_put hts k_794 ⟨Nat.le_of_ble_eq_true rfl, Nat.le_of_ble_eq_true rfl⟩) hK hZ hP hD hS hA [2, 3] [0, 1, 4, 5] (g_recv hK hP (ci := 4) (q0 := 2) rfl rfl) rfl rfl (by decide) (by decide) (by decide) rfl hl.1 rfl (Nat.le_of_ble_eq_true rfl) d_Coder_base_108 ⟨Nat.zero_le _, Nat.zero_le _⟩ (fun u_3 H locs hw hP hD hS => ?_)
        obtain ⟨f1_3, l1_3, o1_3⟩ := u_3
        have e_3 := hw.1
        have hr1_3 := hw.2
        have hP : va_P D vwCl [(a0, .inr (4, [.ref b0, .int (nI l0.length), .int o0])), (b0, .inl (kI, n0, .inl f0)), (a2, .inr (1, [.ref a3, .int v2_inLine])), (a3, .inr (0, [.int v3_value, .int v3_held])), (a1, .inr (4, [.ref b1, .int (nI l1_3.length), .int o1_3])), (b1, .inl (kI, n1, .inl f1_3))] H := hP
        have hD : va_D A [(a0, .inr (4, [.ref b0, .int (nI l0.length), .int o0])), (b0, .inl (kI, n0, .inl f0)), (a2, .inr (1, [.ref a3, .int v2_inLine])), (a3, .inr (0, [.int v3_value, .int v3_held])), (a1, .inr (4, [.ref b1, .int (nI l1_3.length), .int o1_3])), (b1, .inl (kI, n1, .inl f1_3))] := hD
        rw [e_3] at hF; dsimp only at hF
        refine lv_iinc (v := (i4 + 1)) (lv' := [(4, .int (i4 + 1)), (2, .ref a1), (3, .int i3)]) hx hb d_Coder_base_111 hl (k := 2) rfl rfl (by decide) rfl (fun ls hl => ?_)
        refine lv_goto (tgt := 99) hx hb d_Coder_base_114 (by decide) ?_
        exact ih99 i3 (i4 + 1) f1_3 l1_3 o1_3 v2_inLine v3_value v3_held hr1_3 _ _ _  (Nat.lt_of_lt_of_le (g_dec1 c_2) (Nat.le_of_lt_succ hn99)) hF (hP.sub [0, 1, 4, 5, 2, 3] rfl) (hD.sub [0, 1, 4, 5, 2, 3] (by decide) rfl) hS (lv_sub hl [1, 2, 0] rfl)
  have lp9 : ∀ (nf9 : Nat) (i3 : Int32) (f1 : Nat → Int32) (l1 : List Int32) (o1 : Int32) (v2_inLine : Int32) (v3_value : Int32) (v3_held : Int32) (hr1 : g_rw n1 f1 l1) (H : Heap) (locs : List Loc) (ls : Array Slot), ((m_Row_size l0).toInt - i3.toInt).toNat < nf9 → RES = m_Coder_base_l9 n1 nf9 i3 l0 l1 o1 v2_inLine v3_value v3_held → va_P D vwCl [(a0, .inr (4, [.ref b0, .int (nI l0.length), .int o0])), (b0, .inl (kI, n0, .inl f0)), (a1, .inr (4, [.ref b1, .int (nI l1.length), .int o1])), (b1, .inl (kI, n1, .inl f1)), (a2, .inr (1, [.ref a3, .int v2_inLine])), (a3, .inr (0, [.int v3_value, .int v3_held]))] H → va_D A [(a0, .inr (4, [.ref b0, .int (nI l0.length), .int o0])), (b0, .inl (kI, n0, .inl f0)), (a1, .inr (4, [.ref b1, .int (nI l1.length), .int o1])), (b1, .inl (kI, n1, .inl f1)), (a2, .inr (1, [.ref a3, .int v2_inLine])), (a3, .inr (0, [.int v3_value, .int v3_held]))] → va_S A s.heap H locs → lv_has ls 5 [(0, .ref a2), (1, .ref a0), (2, .ref a1), (3, .int i3)] → W p l e rm_Coder_base s m ([.ref a2, .ref a0, .ref a1] : List Value).toArray below meth c H locs 0 0 Q (F0 m 9 ls []) := by
    intro nf9
    induction nf9 with
    | zero => intro i3 f1 l1 o1 v2_inLine v3_value v3_held hr1 H locs ls hn9; exact absurd hn9 (Nat.not_lt_zero _)
    | succ nf9 ih9 =>
      intro i3 f1 l1 o1 v2_inLine v3_value v3_held hr1 H locs ls hn9 hF hP hD hS hl
      rw [m_Coder_base_l9] at hF
      refine lv_iload_n hx hb d_Coder_base_9 rfl (lv_at hl 3 rfl) ?_
      refine lv_aload_n hx hb d_Coder_base_10 rfl (lv_at hl 1 rfl) ?_
      refine g_Vi (As := []) (rest := [.int i3]) (wr := [(a1, .inr (4, [.ref b1, .int (nI l1.length), .int o1])), (b1, .inl (kI, n1, .inl f1)), (a2, .inr (1, [.ref a3, .int v2_inLine])), (a3, .inr (0, [.int v3_value, .int v3_held]))]) ⟨hx, hb, hml, hown, hts⟩ (c_Row_size l D Z kI a0 b0 n0 H.size f0 l0 o0 hr0) (cw_Row_size hts k_783 ⟨Nat.le_of_ble_eq_true rfl, Nat.le_of_ble_eq_true rfl⟩) hK hZ hP hD hS hA [0, 1] [2, 3, 4, 5] (g_recv hK hP (ci := 4) (q0 := 0) rfl rfl) rfl rfl (by decide) (by decide) (by decide) rfl hl.1 rfl (Nat.le_of_ble_eq_true rfl) d_Coder_base_11 ⟨Nat.zero_le _, Nat.zero_le _⟩ (fun r_4 u_4 H locs hw hP hD hS => ?_)
      have e_4 := hw
      subst e_4
      have hP : va_P D vwCl [(a1, .inr (4, [.ref b1, .int (nI l1.length), .int o1])), (b1, .inl (kI, n1, .inl f1)), (a2, .inr (1, [.ref a3, .int v2_inLine])), (a3, .inr (0, [.int v3_value, .int v3_held])), (a0, .inr (4, [.ref b0, .int (nI l0.length), .int o0])), (b0, .inl (kI, n0, .inl f0))] H := hP
      have hD : va_D A [(a1, .inr (4, [.ref b1, .int (nI l1.length), .int o1])), (b1, .inl (kI, n1, .inl f1)), (a2, .inr (1, [.ref a3, .int v2_inLine])), (a3, .inr (0, [.int v3_value, .int v3_held])), (a0, .inr (4, [.ref b0, .int (nI l0.length), .int o0])), (b0, .inl (kI, n0, .inl f0))] := hD
      refine lv_icmp_ge (tgt := 59) hx hb d_Coder_base_14 (by decide) (fun c_5 => ?_) (fun c_5 => ?_)
      · rw [if_pos c_5] at hF
        refine lv_aload_n hx hb d_Coder_base_59 rfl (lv_at hl 0 rfl) ?_
        refine va_get (D := D) (ci := 1) (v := .ref a3) (C := "MailCharacters$Coder") (T := F_Coder) (N := 2) hx hb hts i_Coder hown hK hP 2 rfl rfl 0 (by decide) (hts _ k_175) (fun _ h9 => h9) rfl d_Coder_base_60 ?_
        refine lv_bipush (v := 6) hx hb d_Coder_base_63 (by decide) ?_
        refine g_Vv (As := [.int 6]) (rest := []) (wr := [(a1, .inr (4, [.ref b1, .int (nI l1.length), .int o1])), (b1, .inl (kI, n1, .inl f1)), (a2, .inr (1, [.ref a3, .int v2_inLine])), (a0, .inr (4, [.ref b0, .int (nI l0.length), .int o0])), (b0, .inl (kI, n0, .inl f0))]) ⟨hx, hb, hml, hown, hts⟩ (c_Bits_fillUp l D Z kI a3 H.size v3_value v3_held 6) (cw_Bits_fillUp hts k_798 ⟨Nat.le_of_ble_eq_true rfl, Nat.le_of_ble_eq_true rfl⟩) hK hZ hP hD hS hA [3] [0, 1, 2, 4, 5] (g_recv hK hP (ci := 0) (q0 := 3) rfl rfl) rfl rfl (by decide) (by decide) (by decide) rfl hl.1 rfl (Nat.le_of_ble_eq_true rfl) d_Coder_base_65 ⟨Nat.zero_le _, Nat.zero_le _⟩ (fun u_6 H locs hw hP hD hS => ?_)
        obtain ⟨v2_value_6, v2_held_6⟩ := u_6
        have e_6 := hw
        have hP : va_P D vwCl [(a1, .inr (4, [.ref b1, .int (nI l1.length), .int o1])), (b1, .inl (kI, n1, .inl f1)), (a2, .inr (1, [.ref a3, .int v2_inLine])), (a0, .inr (4, [.ref b0, .int (nI l0.length), .int o0])), (b0, .inl (kI, n0, .inl f0)), (a3, .inr (0, [.int v2_value_6, .int v2_held_6]))] H := hP
        have hD : va_D A [(a1, .inr (4, [.ref b1, .int (nI l1.length), .int o1])), (b1, .inl (kI, n1, .inl f1)), (a2, .inr (1, [.ref a3, .int v2_inLine])), (a0, .inr (4, [.ref b0, .int (nI l0.length), .int o0])), (b0, .inl (kI, n0, .inl f0)), (a3, .inr (0, [.int v2_value_6, .int v2_held_6]))] := hD
        rw [e_6] at hF; dsimp only at hF
        refine lv_aload_n hx hb d_Coder_base_68 rfl (lv_at hl 0 rfl) ?_
        refine va_get (D := D) (ci := 1) (v := .ref a3) (C := "MailCharacters$Coder") (T := F_Coder) (N := 2) hx hb hts i_Coder hown hK hP 2 rfl rfl 0 (by decide) (hts _ k_175) (fun _ h9 => h9) rfl d_Coder_base_69 ?_
        refine lv_bipush (v := 6) hx hb d_Coder_base_72 (by decide) ?_
        refine g_Vi (As := [.int 6]) (rest := []) (wr := [(a1, .inr (4, [.ref b1, .int (nI l1.length), .int o1])), (b1, .inl (kI, n1, .inl f1)), (a2, .inr (1, [.ref a3, .int v2_inLine])), (a0, .inr (4, [.ref b0, .int (nI l0.length), .int o0])), (b0, .inl (kI, n0, .inl f0))]) ⟨hx, hb, hml, hown, hts⟩ (c_Bits_has l D Z kI a3 H.size v2_value_6 v2_held_6 6) (cw_Bits_has hts k_797 ⟨Nat.le_of_ble_eq_true rfl, Nat.le_of_ble_eq_true rfl⟩) hK hZ hP hD hS hA [5] [0, 1, 2, 3, 4] (g_recv hK hP (ci := 0) (q0 := 5) rfl rfl) rfl rfl (by decide) (by decide) (by decide) rfl hl.1 rfl (Nat.le_of_ble_eq_true rfl) d_Coder_base_74 ⟨Nat.zero_le _, Nat.zero_le _⟩ (fun r_7 u_7 H locs hw hP hD hS => ?_)
        have e_7 := hw
        subst e_7
        have hP : va_P D vwCl [(a1, .inr (4, [.ref b1, .int (nI l1.length), .int o1])), (b1, .inl (kI, n1, .inl f1)), (a2, .inr (1, [.ref a3, .int v2_inLine])), (a0, .inr (4, [.ref b0, .int (nI l0.length), .int o0])), (b0, .inl (kI, n0, .inl f0)), (a3, .inr (0, [.int v2_value_6, .int v2_held_6]))] H := hP
        have hD : va_D A [(a1, .inr (4, [.ref b1, .int (nI l1.length), .int o1])), (b1, .inl (kI, n1, .inl f1)), (a2, .inr (1, [.ref a3, .int v2_inLine])), (a0, .inr (4, [.ref b0, .int (nI l0.length), .int o0])), (b0, .inl (kI, n0, .inl f0)), (a3, .inr (0, [.int v2_value_6, .int v2_held_6]))] := hD
        refine lv_if_eq (tgt := 85) hx hb d_Coder_base_77 (by decide) (fun c_8 => ?_) (fun c_8 => ?_)
        · rw [if_pos c_8] at hF
          refine lv_iconst (v := 4) hx hb d_Coder_base_85 (by decide) ?_
          refine lv_aload_n hx hb d_Coder_base_86 rfl (lv_at hl 0 rfl) ?_
          refine va_get (D := D) (ci := 1) (v := .int v2_inLine) (C := "MailCharacters$Coder") (T := F_Coder) (N := 2) hx hb hts i_Coder hown hK hP 2 rfl rfl 1 (by decide) (hts _ k_176) (fun _ h9 => h9) rfl d_Coder_base_87 ?_
          refine lv_iconst (v := 4) hx hb d_Coder_base_90 (by decide) ?_
          refine lv_irem hx hb d_Coder_base_91 (by decide) ?_
          refine lv_isub hx hb d_Coder_base_92 ?_
          refine lv_iconst (v := 4) hx hb d_Coder_base_93 (by decide) ?_
          refine lv_irem hx hb d_Coder_base_94 (by decide) ?_
          refine lv_istore_n (lv' := [(3, .int ((4 - (v2_inLine - v2_inLine / 4 * 4)) - (4 - (v2_inLine - v2_inLine / 4 * 4)) / 4 * 4)), (0, .ref a2), (1, .ref a0), (2, .ref a1)]) hx hb d_Coder_base_95 rfl hl (by decide) rfl (fun ls hl => ?_)
          refine lv_iconst (v := 0) hx hb d_Coder_base_96 (by decide) ?_
          refine lv_istore (lv' := [(4, .int 0), (3, .int ((4 - (v2_inLine - v2_inLine / 4 * 4)) - (4 - (v2_inLine - v2_inLine / 4 * 4)) / 4 * 4)), (0, .ref a2), (1, .ref a0), (2, .ref a1)]) hx hb d_Coder_base_97 hl (by decide) rfl (fun ls hl => ?_)
          exact lp99 ((((4 - (v2_inLine - v2_inLine / 4 * 4)) - (4 - (v2_inLine - v2_inLine / 4 * 4)) / 4 * 4).toInt - (0 : Int32).toInt).toNat + 1) ((4 - (v2_inLine - v2_inLine / 4 * 4)) - (4 - (v2_inLine - v2_inLine / 4 * 4)) / 4 * 4) 0 f1 l1 o1 v2_inLine v2_value_6 v2_held_6 hr1 _ _ _  (Nat.lt_succ_self _) hF (hP.sub [3, 4, 0, 1, 2, 5] rfl) (hD.sub [3, 4, 0, 1, 2, 5] (by decide) rfl) hS (lv_sub hl [4, 1, 0] rfl)
        · rw [if_neg c_8] at hF
          refine lv_aload_n hx hb d_Coder_base_80 rfl (lv_at hl 0 rfl) ?_
          refine lv_aload_n hx hb d_Coder_base_81 rfl (lv_at hl 2 rfl) ?_
          refine g_Vv (As := [.ref a1]) (rest := []) (wr := [(a0, .inr (4, [.ref b0, .int (nI l0.length), .int o0])), (b0, .inl (kI, n0, .inl f0))]) ⟨hx, hb, hml, hown, hts⟩ (c_Coder_putLetter l D Z kI a2 a3 a1 b1 n1 H.size v2_inLine v2_value_6 v2_held_6 f1 l1 o1 hr1) (cw_Coder_putLetter hts k_786 ⟨Nat.le_of_ble_eq_true rfl, Nat.le_of_ble_eq_true rfl⟩) hK hZ hP hD hS hA [2, 5, 0, 1] [3, 4] (g_recv hK hP (ci := 1) (q0 := 2) rfl rfl) rfl rfl (by decide) (by decide) (by decide) rfl hl.1 rfl (Nat.le_of_ble_eq_true rfl) d_Coder_base_82 ⟨Nat.zero_le _, Nat.zero_le _⟩ (fun u_9 H locs hw hP hD hS => ?_)
          obtain ⟨v1_inLine_9, v3_held_9, f0_9, l0_9, o0_9⟩ := u_9
          have e_9 := hw.1
          have hr0_9 := hw.2
          have hP : va_P D vwCl [(a0, .inr (4, [.ref b0, .int (nI l0.length), .int o0])), (b0, .inl (kI, n0, .inl f0)), (a2, .inr (1, [.ref a3, .int v1_inLine_9])), (a3, .inr (0, [.int v2_value_6, .int v3_held_9])), (a1, .inr (4, [.ref b1, .int (nI l0_9.length), .int o0_9])), (b1, .inl (kI, n1, .inl f0_9))] H := hP
          have hD : va_D A [(a0, .inr (4, [.ref b0, .int (nI l0.length), .int o0])), (b0, .inl (kI, n0, .inl f0)), (a2, .inr (1, [.ref a3, .int v1_inLine_9])), (a3, .inr (0, [.int v2_value_6, .int v3_held_9])), (a1, .inr (4, [.ref b1, .int (nI l0_9.length), .int o0_9])), (b1, .inl (kI, n1, .inl f0_9))] := hD
          rw [e_9] at hF; dsimp only at hF
          refine lv_iconst (v := 4) hx hb d_Coder_base_85 (by decide) ?_
          refine lv_aload_n hx hb d_Coder_base_86 rfl (lv_at hl 0 rfl) ?_
          refine va_get (D := D) (ci := 1) (v := .int v1_inLine_9) (C := "MailCharacters$Coder") (T := F_Coder) (N := 2) hx hb hts i_Coder hown hK hP 2 rfl rfl 1 (by decide) (hts _ k_176) (fun _ h9 => h9) rfl d_Coder_base_87 ?_
          refine lv_iconst (v := 4) hx hb d_Coder_base_90 (by decide) ?_
          refine lv_irem hx hb d_Coder_base_91 (by decide) ?_
          refine lv_isub hx hb d_Coder_base_92 ?_
          refine lv_iconst (v := 4) hx hb d_Coder_base_93 (by decide) ?_
          refine lv_irem hx hb d_Coder_base_94 (by decide) ?_
          refine lv_istore_n (lv' := [(3, .int ((4 - (v1_inLine_9 - v1_inLine_9 / 4 * 4)) - (4 - (v1_inLine_9 - v1_inLine_9 / 4 * 4)) / 4 * 4)), (0, .ref a2), (1, .ref a0), (2, .ref a1)]) hx hb d_Coder_base_95 rfl hl (by decide) rfl (fun ls hl => ?_)
          refine lv_iconst (v := 0) hx hb d_Coder_base_96 (by decide) ?_
          refine lv_istore (lv' := [(4, .int 0), (3, .int ((4 - (v1_inLine_9 - v1_inLine_9 / 4 * 4)) - (4 - (v1_inLine_9 - v1_inLine_9 / 4 * 4)) / 4 * 4)), (0, .ref a2), (1, .ref a0), (2, .ref a1)]) hx hb d_Coder_base_97 hl (by decide) rfl (fun ls hl => ?_)
          exact lp99 ((((4 - (v1_inLine_9 - v1_inLine_9 / 4 * 4)) - (4 - (v1_inLine_9 - v1_inLine_9 / 4 * 4)) / 4 * 4).toInt - (0 : Int32).toInt).toNat + 1) ((4 - (v1_inLine_9 - v1_inLine_9 / 4 * 4)) - (4 - (v1_inLine_9 - v1_inLine_9 / 4 * 4)) / 4 * 4) 0 f0_9 l0_9 o0_9 v1_inLine_9 v2_value_6 v3_held_9 hr0_9 _ _ _  (Nat.lt_succ_self _) hF (hP.sub [0, 1, 4, 5, 2, 3] rfl) (hD.sub [0, 1, 4, 5, 2, 3] (by decide) rfl) hS (lv_sub hl [4, 1, 0] rfl)
      · rw [if_neg c_5] at hF
        refine lv_aload_n hx hb d_Coder_base_17 rfl (lv_at hl 0 rfl) ?_
        refine va_get (D := D) (ci := 1) (v := .ref a3) (C := "MailCharacters$Coder") (T := F_Coder) (N := 2) hx hb hts i_Coder hown hK hP 2 rfl rfl 0 (by decide) (hts _ k_175) (fun _ h9 => h9) rfl d_Coder_base_18 ?_
        refine lv_aload_n hx hb d_Coder_base_21 rfl (lv_at hl 1 rfl) ?_
        refine lv_iload_n hx hb d_Coder_base_22 rfl (lv_at hl 3 rfl) ?_
        refine g_Vi (As := [.int i3]) (rest := [.ref a3]) (wr := [(a1, .inr (4, [.ref b1, .int (nI l1.length), .int o1])), (b1, .inl (kI, n1, .inl f1)), (a2, .inr (1, [.ref a3, .int v2_inLine])), (a3, .inr (0, [.int v3_value, .int v3_held]))]) ⟨hx, hb, hml, hown, hts⟩ (c_Row_get l D Z kI a0 b0 n0 H.size f0 l0 o0 i3 hr0) (cw_Row_get hts k_784 ⟨Nat.le_of_ble_eq_true rfl, Nat.le_of_ble_eq_true rfl⟩) hK hZ hP hD hS hA [4, 5] [0, 1, 2, 3] (g_recv hK hP (ci := 4) (q0 := 4) rfl rfl) rfl rfl (by decide) (by decide) (by decide) rfl hl.1 rfl (Nat.le_of_ble_eq_true rfl) d_Coder_base_23 ⟨Nat.zero_le _, Nat.zero_le _⟩ (fun r_10 u_10 H locs hw hP hD hS => ?_)
        have e_10 := hw
        subst e_10
        have hP : va_P D vwCl [(a1, .inr (4, [.ref b1, .int (nI l1.length), .int o1])), (b1, .inl (kI, n1, .inl f1)), (a2, .inr (1, [.ref a3, .int v2_inLine])), (a3, .inr (0, [.int v3_value, .int v3_held])), (a0, .inr (4, [.ref b0, .int (nI l0.length), .int o0])), (b0, .inl (kI, n0, .inl f0))] H := hP
        have hD : va_D A [(a1, .inr (4, [.ref b1, .int (nI l1.length), .int o1])), (b1, .inl (kI, n1, .inl f1)), (a2, .inr (1, [.ref a3, .int v2_inLine])), (a3, .inr (0, [.int v3_value, .int v3_held])), (a0, .inr (4, [.ref b0, .int (nI l0.length), .int o0])), (b0, .inl (kI, n0, .inl f0))] := hD
        refine lv_bipush (v := 8) hx hb d_Coder_base_26 (by decide) ?_
        refine g_Vv (As := [.int (m_Row_get l0 i3), .int 8]) (rest := []) (wr := [(a1, .inr (4, [.ref b1, .int (nI l1.length), .int o1])), (b1, .inl (kI, n1, .inl f1)), (a2, .inr (1, [.ref a3, .int v2_inLine])), (a0, .inr (4, [.ref b0, .int (nI l0.length), .int o0])), (b0, .inl (kI, n0, .inl f0))]) ⟨hx, hb, hml, hown, hts⟩ (c_Bits_add l D Z kI a3 H.size v3_value v3_held (m_Row_get l0 i3) 8) (cw_Bits_add hts k_785 ⟨Nat.le_of_ble_eq_true rfl, Nat.le_of_ble_eq_true rfl⟩) hK hZ hP hD hS hA [3] [0, 1, 2, 4, 5] (g_recv hK hP (ci := 0) (q0 := 3) rfl rfl) rfl rfl (by decide) (by decide) (by decide) rfl hl.1 rfl (Nat.le_of_ble_eq_true rfl) d_Coder_base_28 ⟨Nat.zero_le _, Nat.zero_le _⟩ (fun u_11 H locs hw hP hD hS => ?_)
        obtain ⟨v2_value_11, v2_held_11⟩ := u_11
        have e_11 := hw
        have hP : va_P D vwCl [(a1, .inr (4, [.ref b1, .int (nI l1.length), .int o1])), (b1, .inl (kI, n1, .inl f1)), (a2, .inr (1, [.ref a3, .int v2_inLine])), (a0, .inr (4, [.ref b0, .int (nI l0.length), .int o0])), (b0, .inl (kI, n0, .inl f0)), (a3, .inr (0, [.int v2_value_11, .int v2_held_11]))] H := hP
        have hD : va_D A [(a1, .inr (4, [.ref b1, .int (nI l1.length), .int o1])), (b1, .inl (kI, n1, .inl f1)), (a2, .inr (1, [.ref a3, .int v2_inLine])), (a0, .inr (4, [.ref b0, .int (nI l0.length), .int o0])), (b0, .inl (kI, n0, .inl f0)), (a3, .inr (0, [.int v2_value_11, .int v2_held_11]))] := hD
        rw [e_11] at hF; dsimp only at hF
        refine lv_aload_n hx hb d_Coder_base_31 rfl (lv_at hl 0 rfl) ?_
        refine lv_aload_n hx hb d_Coder_base_32 rfl (lv_at hl 2 rfl) ?_
        refine g_Vv (As := [.ref a1]) (rest := []) (wr := [(a0, .inr (4, [.ref b0, .int (nI l0.length), .int o0])), (b0, .inl (kI, n0, .inl f0))]) ⟨hx, hb, hml, hown, hts⟩ (c_Coder_putLetter l D Z kI a2 a3 a1 b1 n1 H.size v2_inLine v2_value_11 v2_held_11 f1 l1 o1 hr1) (cw_Coder_putLetter hts k_786 ⟨Nat.le_of_ble_eq_true rfl, Nat.le_of_ble_eq_true rfl⟩) hK hZ hP hD hS hA [2, 5, 0, 1] [3, 4] (g_recv hK hP (ci := 1) (q0 := 2) rfl rfl) rfl rfl (by decide) (by decide) (by decide) rfl hl.1 rfl (Nat.le_of_ble_eq_true rfl) d_Coder_base_33 ⟨Nat.zero_le _, Nat.zero_le _⟩ (fun u_12 H locs hw hP hD hS => ?_)
        obtain ⟨v1_inLine_12, v3_held_12, f0_12, l0_12, o0_12⟩ := u_12
        have e_12 := hw.1
        have hr0_12 := hw.2
        have hP : va_P D vwCl [(a0, .inr (4, [.ref b0, .int (nI l0.length), .int o0])), (b0, .inl (kI, n0, .inl f0)), (a2, .inr (1, [.ref a3, .int v1_inLine_12])), (a3, .inr (0, [.int v2_value_11, .int v3_held_12])), (a1, .inr (4, [.ref b1, .int (nI l0_12.length), .int o0_12])), (b1, .inl (kI, n1, .inl f0_12))] H := hP
        have hD : va_D A [(a0, .inr (4, [.ref b0, .int (nI l0.length), .int o0])), (b0, .inl (kI, n0, .inl f0)), (a2, .inr (1, [.ref a3, .int v1_inLine_12])), (a3, .inr (0, [.int v2_value_11, .int v3_held_12])), (a1, .inr (4, [.ref b1, .int (nI l0_12.length), .int o0_12])), (b1, .inl (kI, n1, .inl f0_12))] := hD
        rw [e_12] at hF; dsimp only at hF
        refine lv_aload_n hx hb d_Coder_base_36 rfl (lv_at hl 0 rfl) ?_
        refine va_get (D := D) (ci := 1) (v := .ref a3) (C := "MailCharacters$Coder") (T := F_Coder) (N := 2) hx hb hts i_Coder hown hK hP 2 rfl rfl 0 (by decide) (hts _ k_175) (fun _ h9 => h9) rfl d_Coder_base_37 ?_
        refine lv_bipush (v := 6) hx hb d_Coder_base_40 (by decide) ?_
        refine g_Vi (As := [.int 6]) (rest := []) (wr := [(a0, .inr (4, [.ref b0, .int (nI l0.length), .int o0])), (b0, .inl (kI, n0, .inl f0)), (a2, .inr (1, [.ref a3, .int v1_inLine_12])), (a1, .inr (4, [.ref b1, .int (nI l0_12.length), .int o0_12])), (b1, .inl (kI, n1, .inl f0_12))]) ⟨hx, hb, hml, hown, hts⟩ (c_Bits_has l D Z kI a3 H.size v2_value_11 v3_held_12 6) (cw_Bits_has hts k_797 ⟨Nat.le_of_ble_eq_true rfl, Nat.le_of_ble_eq_true rfl⟩) hK hZ hP hD hS hA [3] [0, 1, 2, 4, 5] (g_recv hK hP (ci := 0) (q0 := 3) rfl rfl) rfl rfl (by decide) (by decide) (by decide) rfl hl.1 rfl (Nat.le_of_ble_eq_true rfl) d_Coder_base_42 ⟨Nat.zero_le _, Nat.zero_le _⟩ (fun r_13 u_13 H locs hw hP hD hS => ?_)
        have e_13 := hw
        subst e_13
        have hP : va_P D vwCl [(a0, .inr (4, [.ref b0, .int (nI l0.length), .int o0])), (b0, .inl (kI, n0, .inl f0)), (a2, .inr (1, [.ref a3, .int v1_inLine_12])), (a1, .inr (4, [.ref b1, .int (nI l0_12.length), .int o0_12])), (b1, .inl (kI, n1, .inl f0_12)), (a3, .inr (0, [.int v2_value_11, .int v3_held_12]))] H := hP
        have hD : va_D A [(a0, .inr (4, [.ref b0, .int (nI l0.length), .int o0])), (b0, .inl (kI, n0, .inl f0)), (a2, .inr (1, [.ref a3, .int v1_inLine_12])), (a1, .inr (4, [.ref b1, .int (nI l0_12.length), .int o0_12])), (b1, .inl (kI, n1, .inl f0_12)), (a3, .inr (0, [.int v2_value_11, .int v3_held_12]))] := hD
        refine lv_if_eq (tgt := 53) hx hb d_Coder_base_45 (by decide) (fun c_14 => ?_) (fun c_14 => ?_)
        · rw [if_pos c_14] at hF
          refine lv_iinc (v := (i3 + 1)) (lv' := [(3, .int (i3 + 1)), (0, .ref a2), (1, .ref a0), (2, .ref a1)]) hx hb d_Coder_base_53 hl (k := 3) rfl rfl (by decide) rfl (fun ls hl => ?_)
          refine lv_goto (tgt := 9) hx hb d_Coder_base_56 (by decide) ?_
          exact ih9 (i3 + 1) f0_12 l0_12 o0_12 v1_inLine_12 v2_value_11 v3_held_12 hr0_12 _ _ _  (Nat.lt_of_lt_of_le (g_dec1 c_5) (Nat.le_of_lt_succ hn9)) hF (hP.sub [0, 1, 3, 4, 2, 5] rfl) (hD.sub [0, 1, 3, 4, 2, 5] (by decide) rfl) hS (lv_sub hl [1, 2, 3, 0] rfl)
        · rw [if_neg c_14] at hF
          refine lv_aload_n hx hb d_Coder_base_48 rfl (lv_at hl 0 rfl) ?_
          refine lv_aload_n hx hb d_Coder_base_49 rfl (lv_at hl 2 rfl) ?_
          refine g_Vv (As := [.ref a1]) (rest := []) (wr := [(a0, .inr (4, [.ref b0, .int (nI l0.length), .int o0])), (b0, .inl (kI, n0, .inl f0))]) ⟨hx, hb, hml, hown, hts⟩ (c_Coder_putLetter l D Z kI a2 a3 a1 b1 n1 H.size v1_inLine_12 v2_value_11 v3_held_12 f0_12 l0_12 o0_12 hr0_12) (cw_Coder_putLetter hts k_786 ⟨Nat.le_of_ble_eq_true rfl, Nat.le_of_ble_eq_true rfl⟩) hK hZ hP hD hS hA [2, 5, 3, 4] [0, 1] (g_recv hK hP (ci := 1) (q0 := 2) rfl rfl) rfl rfl (by decide) (by decide) (by decide) rfl hl.1 rfl (Nat.le_of_ble_eq_true rfl) d_Coder_base_50 ⟨Nat.zero_le _, Nat.zero_le _⟩ (fun u_15 H locs hw hP hD hS => ?_)
          obtain ⟨v1_inLine_15, v3_held_15, f2_15, l2_15, o2_15⟩ := u_15
          have e_15 := hw.1
          have hr2_15 := hw.2
          have hP : va_P D vwCl [(a0, .inr (4, [.ref b0, .int (nI l0.length), .int o0])), (b0, .inl (kI, n0, .inl f0)), (a2, .inr (1, [.ref a3, .int v1_inLine_15])), (a3, .inr (0, [.int v2_value_11, .int v3_held_15])), (a1, .inr (4, [.ref b1, .int (nI l2_15.length), .int o2_15])), (b1, .inl (kI, n1, .inl f2_15))] H := hP
          have hD : va_D A [(a0, .inr (4, [.ref b0, .int (nI l0.length), .int o0])), (b0, .inl (kI, n0, .inl f0)), (a2, .inr (1, [.ref a3, .int v1_inLine_15])), (a3, .inr (0, [.int v2_value_11, .int v3_held_15])), (a1, .inr (4, [.ref b1, .int (nI l2_15.length), .int o2_15])), (b1, .inl (kI, n1, .inl f2_15))] := hD
          rw [e_15] at hF; dsimp only at hF
          refine lv_iinc (v := (i3 + 1)) (lv' := [(3, .int (i3 + 1)), (0, .ref a2), (1, .ref a0), (2, .ref a1)]) hx hb d_Coder_base_53 hl (k := 3) rfl rfl (by decide) rfl (fun ls hl => ?_)
          refine lv_goto (tgt := 9) hx hb d_Coder_base_56 (by decide) ?_
          exact ih9 (i3 + 1) f2_15 l2_15 o2_15 v1_inLine_15 v2_value_11 v3_held_15 hr2_15 _ _ _  (Nat.lt_of_lt_of_le (g_dec1 c_5) (Nat.le_of_lt_succ hn9)) hF (hP.sub [0, 1, 4, 5, 2, 3] rfl) (hD.sub [0, 1, 4, 5, 2, 3] (by decide) rfl) hS (lv_sub hl [1, 2, 3, 0] rfl)
  have hF := hRES
  rw [m_Coder_base] at hF
  refine lv_aload_n hx hb d_Coder_base_0 rfl (lv_at hl 0 rfl) ?_
  refine va_get (D := D) (ci := 1) (v := .ref a3) (C := "MailCharacters$Coder") (T := F_Coder) (N := 2) hx hb hts i_Coder hown hK hP 4 rfl rfl 0 (by decide) (hts _ k_175) (fun _ h9 => h9) rfl d_Coder_base_1 ?_
  refine g_Vv (As := []) (rest := []) (wr := [(a0, .inr (4, [.ref b0, .int (nI l0.length), .int o0])), (b0, .inl (kI, n0, .inl f0)), (a1, .inr (4, [.ref b1, .int (nI l1.length), .int o1])), (b1, .inl (kI, n1, .inl f1)), (a2, .inr (1, [.ref a3, .int v2_inLine]))]) ⟨hx, hb, hml, hown, hts⟩ (c_Bits_clear l D Z kI a3 H.size v3_value v3_held) (cw_Bits_clear hts k_782 ⟨Nat.le_of_ble_eq_true rfl, Nat.le_of_ble_eq_true rfl⟩) hK hZ hP hD hS hA [5] [0, 1, 2, 3, 4] (g_recv hK hP (ci := 0) (q0 := 5) rfl rfl) rfl rfl (by decide) (by decide) (by decide) rfl hl.1 rfl (Nat.le_of_ble_eq_true rfl) d_Coder_base_4 ⟨Nat.zero_le _, Nat.zero_le _⟩ (fun u_16 H locs hw hP hD hS => ?_)
  obtain ⟨v3_value_16, v3_held_16⟩ := u_16
  have e_16 := hw
  have hP : va_P D vwCl [(a0, .inr (4, [.ref b0, .int (nI l0.length), .int o0])), (b0, .inl (kI, n0, .inl f0)), (a1, .inr (4, [.ref b1, .int (nI l1.length), .int o1])), (b1, .inl (kI, n1, .inl f1)), (a2, .inr (1, [.ref a3, .int v2_inLine])), (a3, .inr (0, [.int v3_value_16, .int v3_held_16]))] H := hP
  have hD : va_D A [(a0, .inr (4, [.ref b0, .int (nI l0.length), .int o0])), (b0, .inl (kI, n0, .inl f0)), (a1, .inr (4, [.ref b1, .int (nI l1.length), .int o1])), (b1, .inl (kI, n1, .inl f1)), (a2, .inr (1, [.ref a3, .int v2_inLine])), (a3, .inr (0, [.int v3_value_16, .int v3_held_16]))] := hD
  rw [e_16] at hF; dsimp only at hF
  refine lv_iconst (v := 0) hx hb d_Coder_base_7 (by decide) ?_
  refine lv_istore_n (lv' := [(3, .int 0), (0, .ref a2), (1, .ref a0), (2, .ref a1)]) hx hb d_Coder_base_8 rfl hl (by decide) rfl (fun ls hl => ?_)
  exact lp9 (((m_Row_size l0).toInt - (0 : Int32).toInt).toNat + 1) 0 f1 l1 o1 v2_inLine v3_value_16 v3_held_16 hr1 _ _ _  (Nat.lt_succ_self _) hF hP hD hS (lv_sub hl [1, 2, 3, 0] rfl)
theorem cw_Coder_base {R : Room} {s : State} {args : Array Value} {own : String} {idx : Nat} (hts : ∀ w ∈ gW, w.before args s = true) (hl : Cond.methodLink own idx y_Coder_base ∈ gW) (hR : rm_Coder_base.frames + 1 ≤ R.frames ∧ 8 + (5 + 11) + rm_Coder_base.locals ≤ R.locals) : CallW R s args own "MailCharacters$Coder" idx y_Coder_base b_Coder_base 5 none w_Coder_base rm_Coder_base 0 0 2 := cwV 2 hts (gW_V hl k_780 k_19 k_73 k_781) rfl rfl rfl (by decide +kernel) hR
def m_Coder_quote_l2 (n2 : Nat) : Nat → Int32 → List Int32 → Int32 → List Int32 → Int32 → Int32 × List Int32 × Int32
  | 0, _, _, v1_inLine, l2, o2 => (v1_inLine, l2, o2)
  | nf2 + 1, i3, l0, v1_inLine, l2, o2 =>
    if (m_Row_size l0) ≤ i3 then
      (v1_inLine, l2, o2)
    else
      if (m_Coder_isLineEnd l0 i3) = 0 then
        match (m_Coder_quoteByte n2 v1_inLine l2 o2 (m_Row_get l0 i3) (m_Coder_isItself l0 i3)) with
        | (v0_inLine_8, l1_8, o1_8) =>
          m_Coder_quote_l2 n2 nf2 (i3 + 1) l0 v0_inLine_8 l1_8 o1_8
      else
        match (m_Coder_endLine n2 l2 o2) with
        | (l1_9, o1_9, v0_inLine_9) =>
          m_Coder_quote_l2 n2 nf2 ((i3 + 1) + 1) l0 v0_inLine_9 l1_9 o1_9
def m_Coder_quote (n2 : Nat) (l0 : List Int32) (v1_inLine : Int32) (l2 : List Int32) (o2 : Int32) : Int32 × List Int32 × Int32 :=
  m_Coder_quote_l2 n2 (((m_Row_size l0).toInt - (0 : Int32).toInt).toNat + 1) 0 l0 v1_inLine l2 o2
def rm_Coder_quote : Room := { frames := 6, cells := 0, slots := 0, locals := 129 }
set_option maxHeartbeats 4000000 in
set_option maxRecDepth 100000 in
theorem c_Coder_quote (l : Launch) (D : va_G) (Z : gZT) (kI : ClassId) (a0 : Nat) (b0 : Nat) (n0 : Nat) (a1 : Nat) (x1_bits : Nat) (a2 : Nat) (b2 : Nat) (n2 : Nat) (sz : Nat) (f0 : Nat → Int32) (l0 : List Int32) (o0 : Int32) (v1_inLine : Int32) (f2 : Nat → Int32) (l2 : List Int32) (o2 : Int32) (hr0 : g_rw n0 f0 l0) (hr2 : g_rw n2 f2 l2) : gMv l y_Coder_quote w_Coder_quote rm_Coder_quote D Z kI [.ref a1, .ref a0, .ref a2] sz [(a0, .inr (4, [.ref b0, .int (nI l0.length), .int o0])), (b0, .inl (kI, n0, .inl f0)), (a1, .inr (1, [.ref x1_bits, .int v1_inLine])), (a2, .inr (4, [.ref b2, .int (nI l2.length), .int o2])), (b2, .inl (kI, n2, .inl f2))] (fun (u : Int32 × (Nat → Int32) × List Int32 × Int32) => m_Coder_quote n2 l0 v1_inLine l2 o2 = (u.1, u.2.2.1, u.2.2.2) ∧ g_rw n2 u.2.1 u.2.2.1) (fun (u : Int32 × (Nat → Int32) × List Int32 × Int32) => ([(a0, .inr (4, [.ref b0, .int (nI l0.length), .int o0])), (b0, .inl (kI, n0, .inl f0)), (a1, .inr (1, [.ref x1_bits, .int u.1])), (a2, .inr (4, [.ref b2, .int (nI u.2.2.1.length), .int u.2.2.2])), (b2, .inl (kI, n2, .inl u.2.1))] : va_W)) := by
  refine g_ofv (cc := b_Coder_quote) (maxL := 4) (by decide) rfl (Nat.le_of_ble_eq_true rfl) ?_
  intro p e s m below meth c A Q H ls hx hb hml hown hts hA hK hZ hP hD hS hl hret
  have hown : s.vm.findClass "MailCharacters$Coder" = some m.cls := hown
  have hl : lv_has ls 4 [(0, .ref a1), (1, .ref a0), (2, .ref a2)] := hl
  obtain ⟨RES, hRES⟩ : ∃ z, z = m_Coder_quote n2 l0 v1_inLine l2 o2 := ⟨_, rfl⟩
  have lp2 : ∀ (nf2 : Nat) (i3 : Int32) (v1_inLine : Int32) (f2 : Nat → Int32) (l2 : List Int32) (o2 : Int32) (hr2 : g_rw n2 f2 l2) (H : Heap) (locs : List Loc) (ls : Array Slot), ((m_Row_size l0).toInt - i3.toInt).toNat < nf2 → RES = m_Coder_quote_l2 n2 nf2 i3 l0 v1_inLine l2 o2 → va_P D vwCl [(a0, .inr (4, [.ref b0, .int (nI l0.length), .int o0])), (b0, .inl (kI, n0, .inl f0)), (a1, .inr (1, [.ref x1_bits, .int v1_inLine])), (a2, .inr (4, [.ref b2, .int (nI l2.length), .int o2])), (b2, .inl (kI, n2, .inl f2))] H → va_D A [(a0, .inr (4, [.ref b0, .int (nI l0.length), .int o0])), (b0, .inl (kI, n0, .inl f0)), (a1, .inr (1, [.ref x1_bits, .int v1_inLine])), (a2, .inr (4, [.ref b2, .int (nI l2.length), .int o2])), (b2, .inl (kI, n2, .inl f2))] → va_S A s.heap H locs → lv_has ls 4 [(0, .ref a1), (1, .ref a0), (2, .ref a2), (3, .int i3)] → W p l e rm_Coder_quote s m ([.ref a1, .ref a0, .ref a2] : List Value).toArray below meth c H locs 0 0 Q (F0 m 2 ls []) := by
    intro nf2
    induction nf2 with
    | zero => intro i3 v1_inLine f2 l2 o2 hr2 H locs ls hn2; exact absurd hn2 (Nat.not_lt_zero _)
    | succ nf2 ih2 =>
      intro i3 v1_inLine f2 l2 o2 hr2 H locs ls hn2 hF hP hD hS hl
      rw [m_Coder_quote_l2] at hF
      refine lv_iload_n hx hb d_Coder_quote_2 rfl (lv_at hl 3 rfl) ?_
      refine lv_aload_n hx hb d_Coder_quote_3 rfl (lv_at hl 1 rfl) ?_
      refine g_Vi (As := []) (rest := [.int i3]) (wr := [(a1, .inr (1, [.ref x1_bits, .int v1_inLine])), (a2, .inr (4, [.ref b2, .int (nI l2.length), .int o2])), (b2, .inl (kI, n2, .inl f2))]) ⟨hx, hb, hml, hown, hts⟩ (c_Row_size l D Z kI a0 b0 n0 H.size f0 l0 o0 hr0) (cw_Row_size hts k_783 ⟨Nat.le_of_ble_eq_true rfl, Nat.le_of_ble_eq_true rfl⟩) hK hZ hP hD hS hA [0, 1] [2, 3, 4] (g_recv hK hP (ci := 4) (q0 := 0) rfl rfl) rfl rfl (by decide) (by decide) (by decide) rfl hl.1 rfl (Nat.le_of_ble_eq_true rfl) d_Coder_quote_4 ⟨Nat.zero_le _, Nat.zero_le _⟩ (fun r_2 u_2 H locs hw hP hD hS => ?_)
      have e_2 := hw
      subst e_2
      have hP : va_P D vwCl [(a1, .inr (1, [.ref x1_bits, .int v1_inLine])), (a2, .inr (4, [.ref b2, .int (nI l2.length), .int o2])), (b2, .inl (kI, n2, .inl f2)), (a0, .inr (4, [.ref b0, .int (nI l0.length), .int o0])), (b0, .inl (kI, n0, .inl f0))] H := hP
      have hD : va_D A [(a1, .inr (1, [.ref x1_bits, .int v1_inLine])), (a2, .inr (4, [.ref b2, .int (nI l2.length), .int o2])), (b2, .inl (kI, n2, .inl f2)), (a0, .inr (4, [.ref b0, .int (nI l0.length), .int o0])), (b0, .inl (kI, n0, .inl f0))] := hD
      refine lv_icmp_ge (tgt := 50) hx hb d_Coder_quote_7 (by decide) (fun c_3 => ?_) (fun c_3 => ?_)
      · rw [if_pos c_3] at hF
        exact hret (v1_inLine, f2, l2, o2) _ _ _ _ d_Coder_quote_50 (⟨hRES.symm.trans hF, hr2⟩) (hP.sub [3, 4, 0, 1, 2] rfl) (hD.sub [3, 4, 0, 1, 2] (by decide) rfl) hS
      · rw [if_neg c_3] at hF
        refine lv_aload_n hx hb d_Coder_quote_10 rfl (lv_at hl 1 rfl) ?_
        refine lv_iload_n hx hb d_Coder_quote_11 rfl (lv_at hl 3 rfl) ?_
        refine g_Si (As := [.ref a0, .int i3]) (rest := []) (wr := [(a1, .inr (1, [.ref x1_bits, .int v1_inLine])), (a2, .inr (4, [.ref b2, .int (nI l2.length), .int o2])), (b2, .inl (kI, n2, .inl f2))]) ⟨hx, hb, hml, hown, hts⟩ (c_Coder_isLineEnd l D Z kI a0 b0 n0 H.size f0 l0 o0 i3 hr0) (cw_Coder_isLineEnd hts k_803 ⟨Nat.le_of_ble_eq_true rfl, Nat.le_of_ble_eq_true rfl⟩) hK hZ hP hD hS hA [3, 4] [0, 1, 2] rfl rfl (by decide) (by decide) (by decide) rfl hl.1 rfl (Nat.le_of_ble_eq_true rfl) d_Coder_quote_12 ⟨Nat.zero_le _, Nat.zero_le _⟩ (fun r_4 u_4 H locs hw hP hD hS => ?_)
        have e_4 := hw
        subst e_4
        have hP : va_P D vwCl [(a1, .inr (1, [.ref x1_bits, .int v1_inLine])), (a2, .inr (4, [.ref b2, .int (nI l2.length), .int o2])), (b2, .inl (kI, n2, .inl f2)), (a0, .inr (4, [.ref b0, .int (nI l0.length), .int o0])), (b0, .inl (kI, n0, .inl f0))] H := hP
        have hD : va_D A [(a1, .inr (1, [.ref x1_bits, .int v1_inLine])), (a2, .inr (4, [.ref b2, .int (nI l2.length), .int o2])), (b2, .inl (kI, n2, .inl f2)), (a0, .inr (4, [.ref b0, .int (nI l0.length), .int o0])), (b0, .inl (kI, n0, .inl f0))] := hD
        refine lv_if_eq (tgt := 29) hx hb d_Coder_quote_15 (by decide) (fun c_5 => ?_) (fun c_5 => ?_)
        · rw [if_pos c_5] at hF
          refine lv_aload_n hx hb d_Coder_quote_29 rfl (lv_at hl 0 rfl) ?_
          refine lv_aload_n hx hb d_Coder_quote_30 rfl (lv_at hl 1 rfl) ?_
          refine lv_iload_n hx hb d_Coder_quote_31 rfl (lv_at hl 3 rfl) ?_
          refine g_Vi (As := [.int i3]) (rest := [.ref a1]) (wr := [(a1, .inr (1, [.ref x1_bits, .int v1_inLine])), (a2, .inr (4, [.ref b2, .int (nI l2.length), .int o2])), (b2, .inl (kI, n2, .inl f2))]) ⟨hx, hb, hml, hown, hts⟩ (c_Row_get l D Z kI a0 b0 n0 H.size f0 l0 o0 i3 hr0) (cw_Row_get hts k_784 ⟨Nat.le_of_ble_eq_true rfl, Nat.le_of_ble_eq_true rfl⟩) hK hZ hP hD hS hA [3, 4] [0, 1, 2] (g_recv hK hP (ci := 4) (q0 := 3) rfl rfl) rfl rfl (by decide) (by decide) (by decide) rfl hl.1 rfl (Nat.le_of_ble_eq_true rfl) d_Coder_quote_32 ⟨Nat.zero_le _, Nat.zero_le _⟩ (fun r_6 u_6 H locs hw hP hD hS => ?_)
          have e_6 := hw
          subst e_6
          have hP : va_P D vwCl [(a1, .inr (1, [.ref x1_bits, .int v1_inLine])), (a2, .inr (4, [.ref b2, .int (nI l2.length), .int o2])), (b2, .inl (kI, n2, .inl f2)), (a0, .inr (4, [.ref b0, .int (nI l0.length), .int o0])), (b0, .inl (kI, n0, .inl f0))] H := hP
          have hD : va_D A [(a1, .inr (1, [.ref x1_bits, .int v1_inLine])), (a2, .inr (4, [.ref b2, .int (nI l2.length), .int o2])), (b2, .inl (kI, n2, .inl f2)), (a0, .inr (4, [.ref b0, .int (nI l0.length), .int o0])), (b0, .inl (kI, n0, .inl f0))] := hD
          refine lv_aload_n hx hb d_Coder_quote_35 rfl (lv_at hl 1 rfl) ?_
          refine lv_iload_n hx hb d_Coder_quote_36 rfl (lv_at hl 3 rfl) ?_
          refine g_Si (As := [.ref a0, .int i3]) (rest := [.int (m_Row_get l0 i3), .ref a1]) (wr := [(a1, .inr (1, [.ref x1_bits, .int v1_inLine])), (a2, .inr (4, [.ref b2, .int (nI l2.length), .int o2])), (b2, .inl (kI, n2, .inl f2))]) ⟨hx, hb, hml, hown, hts⟩ (c_Coder_isItself l D Z kI a0 b0 n0 H.size f0 l0 o0 i3 hr0) (cw_Coder_isItself hts k_806 ⟨Nat.le_of_ble_eq_true rfl, Nat.le_of_ble_eq_true rfl⟩) hK hZ hP hD hS hA [3, 4] [0, 1, 2] rfl rfl (by decide) (by decide) (by decide) rfl hl.1 rfl (Nat.le_of_ble_eq_true rfl) d_Coder_quote_37 ⟨Nat.zero_le _, Nat.zero_le _⟩ (fun r_7 u_7 H locs hw hP hD hS => ?_)
          have e_7 := hw
          subst e_7
          have hP : va_P D vwCl [(a1, .inr (1, [.ref x1_bits, .int v1_inLine])), (a2, .inr (4, [.ref b2, .int (nI l2.length), .int o2])), (b2, .inl (kI, n2, .inl f2)), (a0, .inr (4, [.ref b0, .int (nI l0.length), .int o0])), (b0, .inl (kI, n0, .inl f0))] H := hP
          have hD : va_D A [(a1, .inr (1, [.ref x1_bits, .int v1_inLine])), (a2, .inr (4, [.ref b2, .int (nI l2.length), .int o2])), (b2, .inl (kI, n2, .inl f2)), (a0, .inr (4, [.ref b0, .int (nI l0.length), .int o0])), (b0, .inl (kI, n0, .inl f0))] := hD
          refine lv_aload_n hx hb d_Coder_quote_40 rfl (lv_at hl 2 rfl) ?_
          refine g_Vv (As := [.int (m_Row_get l0 i3), .int (m_Coder_isItself l0 i3), .ref a2]) (rest := []) (wr := [(a0, .inr (4, [.ref b0, .int (nI l0.length), .int o0])), (b0, .inl (kI, n0, .inl f0))]) ⟨hx, hb, hml, hown, hts⟩ (c_Coder_quoteByte l D Z kI a1 x1_bits a2 b2 n2 H.size v1_inLine f2 l2 o2 (m_Row_get l0 i3) (m_Coder_isItself l0 i3) hr2) (cw_Coder_quoteByte hts k_809 ⟨Nat.le_of_ble_eq_true rfl, Nat.le_of_ble_eq_true rfl⟩) hK hZ hP hD hS hA [0, 1, 2] [3, 4] (g_recv hK hP (ci := 1) (q0 := 0) rfl rfl) rfl rfl (by decide) (by decide) (by decide) rfl hl.1 rfl (Nat.le_of_ble_eq_true rfl) d_Coder_quote_41 ⟨Nat.zero_le _, Nat.zero_le _⟩ (fun u_8 H locs hw hP hD hS => ?_)
          obtain ⟨v0_inLine_8, f1_8, l1_8, o1_8⟩ := u_8
          have e_8 := hw.1
          have hr1_8 := hw.2
          have hP : va_P D vwCl [(a0, .inr (4, [.ref b0, .int (nI l0.length), .int o0])), (b0, .inl (kI, n0, .inl f0)), (a1, .inr (1, [.ref x1_bits, .int v0_inLine_8])), (a2, .inr (4, [.ref b2, .int (nI l1_8.length), .int o1_8])), (b2, .inl (kI, n2, .inl f1_8))] H := hP
          have hD : va_D A [(a0, .inr (4, [.ref b0, .int (nI l0.length), .int o0])), (b0, .inl (kI, n0, .inl f0)), (a1, .inr (1, [.ref x1_bits, .int v0_inLine_8])), (a2, .inr (4, [.ref b2, .int (nI l1_8.length), .int o1_8])), (b2, .inl (kI, n2, .inl f1_8))] := hD
          rw [e_8] at hF; dsimp only at hF
          refine lv_iinc (v := (i3 + 1)) (lv' := [(3, .int (i3 + 1)), (0, .ref a1), (1, .ref a0), (2, .ref a2)]) hx hb d_Coder_quote_44 hl (k := 3) rfl rfl (by decide) rfl (fun ls hl => ?_)
          refine lv_goto (tgt := 2) hx hb d_Coder_quote_47 (by decide) ?_
          exact ih2 (i3 + 1) v0_inLine_8 f1_8 l1_8 o1_8 hr1_8 _ _ _  (Nat.lt_of_lt_of_le (g_dec1 c_3) (Nat.le_of_lt_succ hn2)) hF hP hD hS (lv_sub hl [1, 2, 3, 0] rfl)
        · rw [if_neg c_5] at hF
          refine lv_aload_n hx hb d_Coder_quote_18 rfl (lv_at hl 0 rfl) ?_
          refine lv_aload_n hx hb d_Coder_quote_19 rfl (lv_at hl 2 rfl) ?_
          refine g_Vv (As := [.ref a2]) (rest := []) (wr := [(a0, .inr (4, [.ref b0, .int (nI l0.length), .int o0])), (b0, .inl (kI, n0, .inl f0))]) ⟨hx, hb, hml, hown, hts⟩ (c_Coder_endLine l D Z kI a2 b2 n2 a1 x1_bits H.size f2 l2 o2 v1_inLine hr2) (cw_Coder_endLine hts k_790 ⟨Nat.le_of_ble_eq_true rfl, Nat.le_of_ble_eq_true rfl⟩) hK hZ hP hD hS hA [1, 2, 0] [3, 4] (g_recv hK hP (ci := 1) (q0 := 0) rfl rfl) rfl rfl (by decide) (by decide) (by decide) rfl hl.1 rfl (Nat.le_of_ble_eq_true rfl) d_Coder_quote_20 ⟨Nat.zero_le _, Nat.zero_le _⟩ (fun u_9 H locs hw hP hD hS => ?_)
          obtain ⟨f1_9, l1_9, o1_9, v0_inLine_9⟩ := u_9
          have e_9 := hw.1
          have hr1_9 := hw.2
          have hP : va_P D vwCl [(a0, .inr (4, [.ref b0, .int (nI l0.length), .int o0])), (b0, .inl (kI, n0, .inl f0)), (a2, .inr (4, [.ref b2, .int (nI l1_9.length), .int o1_9])), (b2, .inl (kI, n2, .inl f1_9)), (a1, .inr (1, [.ref x1_bits, .int v0_inLine_9]))] H := hP
          have hD : va_D A [(a0, .inr (4, [.ref b0, .int (nI l0.length), .int o0])), (b0, .inl (kI, n0, .inl f0)), (a2, .inr (4, [.ref b2, .int (nI l1_9.length), .int o1_9])), (b2, .inl (kI, n2, .inl f1_9)), (a1, .inr (1, [.ref x1_bits, .int v0_inLine_9]))] := hD
          rw [e_9] at hF; dsimp only at hF
          refine lv_iinc (v := (i3 + 1)) (lv' := [(3, .int (i3 + 1)), (0, .ref a1), (1, .ref a0), (2, .ref a2)]) hx hb d_Coder_quote_23 hl (k := 3) rfl rfl (by decide) rfl (fun ls hl => ?_)
          refine lv_goto (tgt := 44) hx hb d_Coder_quote_26 (by decide) ?_
          refine lv_iinc (v := ((i3 + 1) + 1)) (lv' := [(3, .int ((i3 + 1) + 1)), (0, .ref a1), (1, .ref a0), (2, .ref a2)]) hx hb d_Coder_quote_44 hl (k := 0) rfl rfl (by decide) rfl (fun ls hl => ?_)
          refine lv_goto (tgt := 2) hx hb d_Coder_quote_47 (by decide) ?_
          exact ih2 ((i3 + 1) + 1) v0_inLine_9 f1_9 l1_9 o1_9 hr1_9 _ _ _  (Nat.lt_of_lt_of_le (g_dec2 c_3 (g_szle hr0)) (Nat.le_of_lt_succ hn2)) hF (hP.sub [0, 1, 4, 2, 3] rfl) (hD.sub [0, 1, 4, 2, 3] (by decide) rfl) hS (lv_sub hl [1, 2, 3, 0] rfl)
  have hF := hRES
  rw [m_Coder_quote] at hF
  refine lv_iconst (v := 0) hx hb d_Coder_quote_0 (by decide) ?_
  refine lv_istore_n (lv' := [(3, .int 0), (0, .ref a1), (1, .ref a0), (2, .ref a2)]) hx hb d_Coder_quote_1 rfl hl (by decide) rfl (fun ls hl => ?_)
  exact lp2 (((m_Row_size l0).toInt - (0 : Int32).toInt).toNat + 1) 0 v1_inLine f2 l2 o2 hr2 _ _ _  (Nat.lt_succ_self _) hF hP hD hS (lv_sub hl [1, 2, 3, 0] rfl)
theorem cw_Coder_quote {R : Room} {s : State} {args : Array Value} {own : String} {idx : Nat} (hts : ∀ w ∈ gW, w.before args s = true) (hl : Cond.methodLink own idx y_Coder_quote ∈ gW) (hR : rm_Coder_quote.frames + 1 ≤ R.frames ∧ 8 + (4 + 11) + rm_Coder_quote.locals ≤ R.locals) : CallW R s args own "MailCharacters$Coder" idx y_Coder_quote b_Coder_quote 4 none w_Coder_quote rm_Coder_quote 0 0 2 := cwV 2 hts (gW_V hl k_801 k_22 k_73 k_802) rfl rfl rfl (by decide +kernel) hR
