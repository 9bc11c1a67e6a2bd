def m_Writer_writeCharacter (n0 : Nat) (l0 : List Int32) (o0 : Int32) (p0 : Int32) (p1 : Int32) : List Int32 × Int32 :=
  if p1 = 4 then
    match (m_Writer_writeUtf8 n0 l0 o0 p0) with
    | (l0_2, o0_2) =>
      (l0_2, o0_2)
  else
    if p1 = 5 then
      match (m_Writer_writeUtf16 n0 l0 o0 p0 1) with
      | (l0_4, o0_4) =>
        (l0_4, o0_4)
    else
      if p1 = 6 then
        match (m_Writer_writeUtf16 n0 l0 o0 p0 1) with
        | (l0_6, o0_6) =>
          (l0_6, o0_6)
      else
        if p1 = 7 then
          match (m_Writer_writeUtf16 n0 l0 o0 p0 0) with
          | (l0_8, o0_8) =>
            (l0_8, o0_8)
        else
          match (m_Row_put n0 l0 o0 (m_SingleBytes_byteOf p1 p0)) with
          | (l0_10, o0_10) =>
            (l0_10, o0_10)
def rm_Writer_writeCharacter : Room := { frames := 3, cells := 0, slots := 0, locals := 67 }
set_option maxHeartbeats 4000000 in
set_option maxRecDepth 100000 in
theorem c_Writer_writeCharacter (l : Launch) (D : va_G) (Z : gZT) (kI : ClassId) (a0 : Nat) (b0 : Nat) (n0 : Nat) (sz : Nat) (f0 : Nat → Int32) (l0 : List Int32) (o0 : Int32) (p0 : Int32) (p1 : Int32) (hr0 : g_rw n0 f0 l0) : gMv l y_Writer_writeCharacter w_Writer_writeCharacter rm_Writer_writeCharacter D Z kI [.int p0, .int p1, .ref a0] sz [(a0, .inr (4, [.ref b0, .int (nI l0.length), .int o0])), (b0, .inl (kI, n0, .inl f0))] (fun (u : (Nat → Int32) × List Int32 × Int32) => m_Writer_writeCharacter n0 l0 o0 p0 p1 = (u.2.1, u.2.2) ∧ g_rw n0 u.1 u.2.1) (fun (u : (Nat → Int32) × List Int32 × Int32) => ([(a0, .inr (4, [.ref b0, .int (nI u.2.1.length), .int u.2.2])), (b0, .inl (kI, n0, .inl u.1))] : va_W)) := by
  refine g_ofv (cc := b_Writer_writeCharacter) (maxL := 3) (by decide) rfl (Nat.le_of_ble_eq_true rfl) ?_
  intro p e s m below meth c A Q H ls hx hb hml hown hts hA hK hZ hP hD hS hl hret
  have hown : s.vm.findClass "MailCharacters$Writer" = some m.cls := hown
  have hl : lv_has ls 3 [(0, .int p0), (1, .int p1), (2, .ref a0)] := hl
  obtain ⟨RES, hRES⟩ : ∃ z, z = m_Writer_writeCharacter n0 l0 o0 p0 p1 := ⟨_, rfl⟩
  have hF := hRES
  rw [m_Writer_writeCharacter] at hF
  refine lv_iload_n hx hb d_Writer_writeCharacter_0 rfl (lv_at hl 1 rfl) ?_
  by_cases c_1 : p1 = 4
  · rw [if_pos c_1] at hF
    refine lv_tableIn (off := 31) (tgt := 32) hx hb d_Writer_writeCharacter_1 (by rw [c_1]; decide) (by rw [c_1]; decide) (by rw [c_1]; decide) (by decide) ?_
    refine lv_iload_n hx hb d_Writer_writeCharacter_32 rfl (lv_at hl 0 rfl) ?_
    refine lv_aload_n hx hb d_Writer_writeCharacter_33 rfl (lv_at hl 2 rfl) ?_
    refine g_Sv (As := [.int p0, .ref a0]) (rest := []) (wr := []) ⟨hx, hb, hml, hown, hts⟩ (c_Writer_writeUtf8 l D Z kI a0 b0 n0 H.size f0 l0 o0 p0 hr0) (cw_Writer_writeUtf8 hts k_744 ⟨Nat.le_of_ble_eq_true rfl, Nat.le_of_ble_eq_true rfl⟩) hK hZ hP hD hS hA [0, 1] [] rfl rfl (by decide) (by decide) (by decide) rfl hl.1 rfl (Nat.le_of_ble_eq_true rfl) d_Writer_writeCharacter_34 ⟨Nat.zero_le _, Nat.zero_le _⟩ (fun u_2 H locs hw hP hD hS => ?_)
    obtain ⟨f0_2, l0_2, o0_2⟩ := u_2
    have e_2 := hw.1
    have hr0_2 := hw.2
    have hP : va_P D vwCl [(a0, .inr (4, [.ref b0, .int (nI l0_2.length), .int o0_2])), (b0, .inl (kI, n0, .inl f0_2))] H := hP
    have hD : va_D A [(a0, .inr (4, [.ref b0, .int (nI l0_2.length), .int o0_2])), (b0, .inl (kI, n0, .inl f0_2))] := hD
    rw [e_2] at hF; dsimp only at hF
    refine lv_goto (tgt := 67) hx hb d_Writer_writeCharacter_37 (by decide) ?_
    exact hret (f0_2, l0_2, o0_2) _ _ _ _ d_Writer_writeCharacter_67 (⟨hRES.symm.trans hF, hr0_2⟩) hP hD hS
  rw [if_neg c_1] at hF
  by_cases c_3 : p1 = 5
  · rw [if_pos c_3] at hF
    refine lv_tableIn (off := 39) (tgt := 40) hx hb d_Writer_writeCharacter_1 (by rw [c_3]; decide) (by rw [c_3]; decide) (by rw [c_3]; decide) (by decide) ?_
    refine lv_iload_n hx hb d_Writer_writeCharacter_40 rfl (lv_at hl 0 rfl) ?_
    refine lv_iconst (v := 1) hx hb d_Writer_writeCharacter_41 (by decide) ?_
    refine lv_aload_n hx hb d_Writer_writeCharacter_42 rfl (lv_at hl 2 rfl) ?_
    refine g_Sv (As := [.int p0, .int 1, .ref a0]) (rest := []) (wr := []) ⟨hx, hb, hml, hown, hts⟩ (c_Writer_writeUtf16 l D Z kI a0 b0 n0 H.size f0 l0 o0 p0 1 hr0) (cw_Writer_writeUtf16 hts k_747 ⟨Nat.le_of_ble_eq_true rfl, Nat.le_of_ble_eq_true rfl⟩) hK hZ hP hD hS hA [0, 1] [] rfl rfl (by decide) (by decide) (by decide) rfl hl.1 rfl (Nat.le_of_ble_eq_true rfl) d_Writer_writeCharacter_43 ⟨Nat.zero_le _, Nat.zero_le _⟩ (fun u_4 H locs hw hP hD hS => ?_)
    obtain ⟨f0_4, l0_4, o0_4⟩ := u_4
    have e_4 := hw.1
    have hr0_4 := hw.2
    have hP : va_P D vwCl [(a0, .inr (4, [.ref b0, .int (nI l0_4.length), .int o0_4])), (b0, .inl (kI, n0, .inl f0_4))] H := hP
    have hD : va_D A [(a0, .inr (4, [.ref b0, .int (nI l0_4.length), .int o0_4])), (b0, .inl (kI, n0, .inl f0_4))] := hD
    rw [e_4] at hF; dsimp only at hF
    refine lv_goto (tgt := 67) hx hb d_Writer_writeCharacter_46 (by decide) ?_
    exact hret (f0_4, l0_4, o0_4) _ _ _ _ d_Writer_writeCharacter_67 (⟨hRES.symm.trans hF, hr0_4⟩) hP hD hS
  rw [if_neg c_3] at hF
  by_cases c_5 : p1 = 6
  · rw [if_pos c_5] at hF
    refine lv_tableIn (off := 39) (tgt := 40) hx hb d_Writer_writeCharacter_1 (by rw [c_5]; decide) (by rw [c_5]; decide) (by rw [c_5]; decide) (by decide) ?_
    refine lv_iload_n hx hb d_Writer_writeCharacter_40 rfl (lv_at hl 0 rfl) ?_
    refine lv_iconst (v := 1) hx hb d_Writer_writeCharacter_41 (by decide) ?_
    refine lv_aload_n hx hb d_Writer_writeCharacter_42 rfl (lv_at hl 2 rfl) ?_
    refine g_Sv (As := [.int p0, .int 1, .ref a0]) (rest := []) (wr := []) ⟨hx, hb, hml, hown, hts⟩ (c_Writer_writeUtf16 l D Z kI a0 b0 n0 H.size f0 l0 o0 p0 1 hr0) (cw_Writer_writeUtf16 hts k_747 ⟨Nat.le_of_ble_eq_true rfl, Nat.le_of_ble_eq_true rfl⟩) hK hZ hP hD hS hA [0, 1] [] rfl rfl (by decide) (by decide) (by decide) rfl hl.1 rfl (Nat.le_of_ble_eq_true rfl) d_Writer_writeCharacter_43 ⟨Nat.zero_le _, Nat.zero_le _⟩ (fun u_6 H locs hw hP hD hS => ?_)
    obtain ⟨f0_6, l0_6, o0_6⟩ := u_6
    have e_6 := hw.1
    have hr0_6 := hw.2
    have hP : va_P D vwCl [(a0, .inr (4, [.ref b0, .int (nI l0_6.length), .int o0_6])), (b0, .inl (kI, n0, .inl f0_6))] H := hP
    have hD : va_D A [(a0, .inr (4, [.ref b0, .int (nI l0_6.length), .int o0_6])), (b0, .inl (kI, n0, .inl f0_6))] := hD
    rw [e_6] at hF; dsimp only at hF
    refine lv_goto (tgt := 67) hx hb d_Writer_writeCharacter_46 (by decide) ?_
    exact hret (f0_6, l0_6, o0_6) _ _ _ _ d_Writer_writeCharacter_67 (⟨hRES.symm.trans hF, hr0_6⟩) hP hD hS
  rw [if_neg c_5] at hF
  by_cases c_7 : p1 = 7
  · rw [if_pos c_7] at hF
    refine lv_tableIn (off := 48) (tgt := 49) hx hb d_Writer_writeCharacter_1 (by rw [c_7]; decide) (by rw [c_7]; decide) (by rw [c_7]; decide) (by decide) ?_
    refine lv_iload_n hx hb d_Writer_writeCharacter_49 rfl (lv_at hl 0 rfl) ?_
    refine lv_iconst (v := 0) hx hb d_Writer_writeCharacter_50 (by decide) ?_
    refine lv_aload_n hx hb d_Writer_writeCharacter_51 rfl (lv_at hl 2 rfl) ?_
    refine g_Sv (As := [.int p0, .int 0, .ref a0]) (rest := []) (wr := []) ⟨hx, hb, hml, hown, hts⟩ (c_Writer_writeUtf16 l D Z kI a0 b0 n0 H.size f0 l0 o0 p0 0 hr0) (cw_Writer_writeUtf16 hts k_747 ⟨Nat.le_of_ble_eq_true rfl, Nat.le_of_ble_eq_true rfl⟩) hK hZ hP hD hS hA [0, 1] [] rfl rfl (by decide) (by decide) (by decide) rfl hl.1 rfl (Nat.le_of_ble_eq_true rfl) d_Writer_writeCharacter_52 ⟨Nat.zero_le _, Nat.zero_le _⟩ (fun u_8 H locs hw hP hD hS => ?_)
    obtain ⟨f0_8, l0_8, o0_8⟩ := u_8
    have e_8 := hw.1
    have hr0_8 := hw.2
    have hP : va_P D vwCl [(a0, .inr (4, [.ref b0, .int (nI l0_8.length), .int o0_8])), (b0, .inl (kI, n0, .inl f0_8))] H := hP
    have hD : va_D A [(a0, .inr (4, [.ref b0, .int (nI l0_8.length), .int o0_8])), (b0, .inl (kI, n0, .inl f0_8))] := hD
    rw [e_8] at hF; dsimp only at hF
    refine lv_goto (tgt := 67) hx hb d_Writer_writeCharacter_55 (by decide) ?_
    exact hret (f0_8, l0_8, o0_8) _ _ _ _ d_Writer_writeCharacter_67 (⟨hRES.symm.trans hF, hr0_8⟩) hP hD hS
  rw [if_neg c_7] at hF
  refine lv_tableOut (tgt := 58) hx hb d_Writer_writeCharacter_1 (by have := lv_neT c_1 (a := 4) (by decide); have := lv_neT c_3 (a := 5) (by decide); have := lv_neT c_5 (a := 6) (by decide); have := lv_neT c_7 (a := 7) (by decide); omega) (by decide) ?_
  refine lv_aload_n hx hb d_Writer_writeCharacter_58 rfl (lv_at hl 2 rfl) ?_
  refine lv_iload_n hx hb d_Writer_writeCharacter_59 rfl (lv_at hl 1 rfl) ?_
  refine lv_iload_n hx hb d_Writer_writeCharacter_60 rfl (lv_at hl 0 rfl) ?_
  refine g_Si (As := [.int p1, .int p0]) (rest := [.ref a0]) (wr := [(a0, .inr (4, [.ref b0, .int (nI l0.length), .int o0])), (b0, .inl (kI, n0, .inl f0))]) ⟨hx, hb, hml, hown, hts⟩ (c_SingleBytes_byteOf l D Z kI H.size p1 p0) (cw_SingleBytes_byteOf hts k_750 ⟨Nat.le_of_ble_eq_true rfl, Nat.le_of_ble_eq_true rfl⟩) hK hZ hP hD hS hA [] [0, 1] rfl rfl (by decide) (by decide) (by decide) rfl hl.1 rfl (Nat.le_of_ble_eq_true rfl) d_Writer_writeCharacter_61 ⟨Nat.zero_le _, Nat.zero_le _⟩ (fun r_9 u_9 H locs hw hP hD hS => ?_)
  have e_9 := hw
  subst e_9
  have hP : va_P D vwCl [(a0, .inr (4, [.ref b0, .int (nI l0.length), .int o0])), (b0, .inl (kI, n0, .inl f0))] H := hP
  have hD : va_D A [(a0, .inr (4, [.ref b0, .int (nI l0.length), .int o0])), (b0, .inl (kI, n0, .inl f0))] := hD
  refine g_Vv (As := [.int (m_SingleBytes_byteOf p1 p0)]) (rest := []) (wr := []) ⟨hx, hb, hml, hown, hts⟩ (c_Row_put l D Z kI a0 b0 n0 H.size f0 l0 o0 (m_SingleBytes_byteOf p1 p0) hr0) (cw_Row_put hts k_710 ⟨Nat.le_of_ble_eq_true rfl, Nat.le_of_ble_eq_true rfl⟩) hK hZ hP hD hS hA [0, 1] [] (g_recv hK hP (ci := 4) (q0 := 0) rfl rfl) rfl rfl (by decide) (by decide) (by decide) rfl hl.1 rfl (Nat.le_of_ble_eq_true rfl) d_Writer_writeCharacter_64 ⟨Nat.zero_le _, Nat.zero_le _⟩ (fun u_10 H locs hw hP hD hS => ?_)
  obtain ⟨f0_10, l0_10, o0_10⟩ := u_10
  have e_10 := hw.1
  have hr0_10 := hw.2
  have hP : va_P D vwCl [(a0, .inr (4, [.ref b0, .int (nI l0_10.length), .int o0_10])), (b0, .inl (kI, n0, .inl f0_10))] H := hP
  have hD : va_D A [(a0, .inr (4, [.ref b0, .int (nI l0_10.length), .int o0_10])), (b0, .inl (kI, n0, .inl f0_10))] := hD
  rw [e_10] at hF; dsimp only at hF
  exact hret (f0_10, l0_10, o0_10) _ _ _ _ d_Writer_writeCharacter_67 (⟨hRES.symm.trans hF, hr0_10⟩) hP hD hS
theorem cw_Writer_writeCharacter {R : Room} {s : State} {args : Array Value} {own : String} {idx : Nat} (hts : ∀ w ∈ gW, w.before args s = true) (hl : Cond.methodLink own idx y_Writer_writeCharacter ∈ gW) (hR : rm_Writer_writeCharacter.frames + 1 ≤ R.frames ∧ 8 + (3 + 11) + rm_Writer_writeCharacter.locals ≤ R.locals) : CallB R s args own idx y_Writer_writeCharacter b_Writer_writeCharacter 3 none w_Writer_writeCharacter rm_Writer_writeCharacter 0 0 3 ∧ (Cond.static y_Writer_writeCharacter).before args s = true := va_cwS 3 hts (gW_S hl k_742 k_75 k_743) rfl rfl rfl (by decide +kernel) hR
def m_Coder_codeInto (n2 : Nat) (l1 : List Int32) (l2 : List Int32) (o2 : Int32) (v3_value : Int32) (v3_held : Int32) (p2 : Int32) : Int32 × List Int32 × Int32 × Int32 × Int32 :=
  if p2 = 1 then
    match (m_Coder_base n2 l1 l2 o2 0) with
    | (l2_3, o2_3, v0_inLine_3, v3_value_3, v3_held_3) =>
      (v0_inLine_3, l2_3, o2_3, v3_value_3, v3_held_3)
  else
    match (m_Coder_quote n2 l1 0 l2 o2) with
    | (v0_inLine_2, l2_2, o2_2) =>
      (v0_inLine_2, l2_2, o2_2, v3_value, v3_held)
def rm_Coder_codeInto : Room := { frames := 7, cells := 0, slots := 0, locals := 152 }
set_option maxHeartbeats 4000000 in
set_option maxRecDepth 100000 in
theorem c_Coder_codeInto (l : Launch) (D : va_G) (Z : gZT) (kI : ClassId) (a0 : Nat) (a1 : Nat) (b1 : Nat) (n1 : Nat) (a2 : Nat) (b2 : Nat) (n2 : Nat) (a3 : Nat) (sz : Nat) (v0_inLine : Int32) (f1 : Nat → Int32) (l1 : List Int32) (o1 : Int32) (f2 : Nat → Int32) (l2 : List Int32) (o2 : Int32) (v3_value : Int32) (v3_held : Int32) (p2 : Int32) (hr1 : g_rw n1 f1 l1) (hr2 : g_rw n2 f2 l2) : gMv l y_Coder_codeInto w_Coder_codeInto rm_Coder_codeInto D Z kI [.ref a0, .ref a1, .int p2, .ref a2] sz [(a0, .inr (1, [.ref a3, .int v0_inLine])), (a1, .inr (4, [.ref b1, .int (nI l1.length), .int o1])), (b1, .inl (kI, n1, .inl f1)), (a2, .inr (4, [.ref b2, .int (nI l2.length), .int o2])), (b2, .inl (kI, n2, .inl f2)), (a3, .inr (0, [.int v3_value, .int v3_held]))] (fun (u : Int32 × (Nat → Int32) × List Int32 × Int32 × Int32 × Int32) => m_Coder_codeInto n2 l1 l2 o2 v3_value v3_held p2 = (u.1, u.2.2.1, u.2.2.2.1, u.2.2.2.2.1, u.2.2.2.2.2) ∧ g_rw n2 u.2.1 u.2.2.1) (fun (u : Int32 × (Nat → Int32) × List Int32 × Int32 × Int32 × Int32) => ([(a0, .inr (1, [.ref a3, .int u.1])), (a1, .inr (4, [.ref b1, .int (nI l1.length), .int o1])), (b1, .inl (kI, n1, .inl f1)), (a2, .inr (4, [.ref b2, .int (nI u.2.2.1.length), .int u.2.2.2.1])), (b2, .inl (kI, n2, .inl u.2.1)), (a3, .inr (0, [.int u.2.2.2.2.1, .int u.2.2.2.2.2]))] : va_W)) := by
  refine g_ofv (cc := b_Coder_codeInto) (maxL := 4) (by decide) rfl (Nat.le_of_ble_eq_true rfl) ?_
  intro p e s m below meth c A Q H ls hx hb hml hown hts hA hK hZ hP hD hS hl hret
  have hown : s.vm.findClass "MailCharacters$Coder" = some m.cls := hown
  have hl : lv_has ls 4 [(0, .ref a0), (1, .ref a1), (2, .int p2), (3, .ref a2)] := hl
  obtain ⟨RES, hRES⟩ : ∃ z, z = m_Coder_codeInto n2 l1 l2 o2 v3_value v3_held p2 := ⟨_, rfl⟩
  have hF := hRES
  rw [m_Coder_codeInto] at hF
  refine lv_aload_n hx hb d_Coder_codeInto_0 rfl (lv_at hl 0 rfl) ?_
  refine lv_iconst (v := 0) hx hb d_Coder_codeInto_1 (by decide) ?_
  refine va_put (D := D) (ci := 1) (v := .int 0) (ty := .int) (C := "MailCharacters$Coder") (T := F_Coder) (N := 2) hx hb hts i_Coder t_Coder t_Coder_ok n_Coder hown hK hP hD hS 0 rfl rfl 1 (by decide) (hts _ k_176) (fun _ h9 => h9) rfl (by decide +kernel) rfl rfl (Nat.le_of_ble_eq_true rfl) d_Coder_codeInto_2 (fun H locs hP hD hS => ?_)
  have hP : va_P D vwCl [(a0, .inr (1, [.ref a3, .int 0])), (a1, .inr (4, [.ref b1, .int (nI l1.length), .int o1])), (b1, .inl (kI, n1, .inl f1)), (a2, .inr (4, [.ref b2, .int (nI l2.length), .int o2])), (b2, .inl (kI, n2, .inl f2)), (a3, .inr (0, [.int v3_value, .int v3_held]))] H := hP
  have hD : va_D A [(a0, .inr (1, [.ref a3, .int 0])), (a1, .inr (4, [.ref b1, .int (nI l1.length), .int o1])), (b1, .inl (kI, n1, .inl f1)), (a2, .inr (4, [.ref b2, .int (nI l2.length), .int o2])), (b2, .inl (kI, n2, .inl f2)), (a3, .inr (0, [.int v3_value, .int v3_held]))] := hD
  refine lv_iload_n hx hb d_Coder_codeInto_5 rfl (lv_at hl 2 rfl) ?_
  refine lv_iconst (v := 1) hx hb d_Coder_codeInto_6 (by decide) ?_
  refine lv_icmp_ne (tgt := 19) hx hb d_Coder_codeInto_7 (by decide) (fun c_1 => ?_) (fun c_1 => ?_)
  · rw [if_neg c_1] at hF
    refine lv_aload_n hx hb d_Coder_codeInto_19 rfl (lv_at hl 0 rfl) ?_
    refine lv_aload_n hx hb d_Coder_codeInto_20 rfl (lv_at hl 1 rfl) ?_
    refine lv_aload_n hx hb d_Coder_codeInto_21 rfl (lv_at hl 3 rfl) ?_
    refine g_Vv (As := [.ref a1, .ref a2]) (rest := []) (wr := [(a3, .inr (0, [.int v3_value, .int v3_held]))]) ⟨hx, hb, hml, hown, hts⟩ (c_Coder_quote l D Z kI a1 b1 n1 a0 a3 a2 b2 n2 H.size f1 l1 o1 0 f2 l2 o2 hr1 hr2) (cw_Coder_quote hts k_799 ⟨Nat.le_of_ble_eq_true rfl, Nat.le_of_ble_eq_true rfl⟩) hK hZ hP hD hS hA [1, 2, 0, 3, 4] [5] (g_recv hK hP (ci := 1) (q0 := 0) rfl rfl) rfl rfl (by decide) (by decide) (by decide) rfl hl.1 rfl (Nat.le_of_ble_eq_true rfl) d_Coder_codeInto_22 ⟨Nat.zero_le _, Nat.zero_le _⟩ (fun u_2 H locs hw hP hD hS => ?_)
    obtain ⟨v0_inLine_2, f2_2, l2_2, o2_2⟩ := u_2
    have e_2 := hw.1
    have hr2_2 := hw.2
    have hP : va_P D vwCl [(a3, .inr (0, [.int v3_value, .int v3_held])), (a1, .inr (4, [.ref b1, .int (nI l1.length), .int o1])), (b1, .inl (kI, n1, .inl f1)), (a0, .inr (1, [.ref a3, .int v0_inLine_2])), (a2, .inr (4, [.ref b2, .int (nI l2_2.length), .int o2_2])), (b2, .inl (kI, n2, .inl f2_2))] H := hP
    have hD : va_D A [(a3, .inr (0, [.int v3_value, .int v3_held])), (a1, .inr (4, [.ref b1, .int (nI l1.length), .int o1])), (b1, .inl (kI, n1, .inl f1)), (a0, .inr (1, [.ref a3, .int v0_inLine_2])), (a2, .inr (4, [.ref b2, .int (nI l2_2.length), .int o2_2])), (b2, .inl (kI, n2, .inl f2_2))] := hD
    rw [e_2] at hF; dsimp only at hF
    exact hret (v0_inLine_2, f2_2, l2_2, o2_2, v3_value, v3_held) _ _ _ _ d_Coder_codeInto_25 (⟨hRES.symm.trans hF, hr2_2⟩) (hP.sub [3, 1, 2, 4, 5, 0] rfl) (hD.sub [3, 1, 2, 4, 5, 0] (by decide) rfl) hS
  · rw [if_pos c_1] at hF
    refine lv_aload_n hx hb d_Coder_codeInto_10 rfl (lv_at hl 0 rfl) ?_
    refine lv_aload_n hx hb d_Coder_codeInto_11 rfl (lv_at hl 1 rfl) ?_
    refine lv_aload_n hx hb d_Coder_codeInto_12 rfl (lv_at hl 3 rfl) ?_
    refine g_Vv (As := [.ref a1, .ref a2]) (rest := []) (wr := []) ⟨hx, hb, hml, hown, hts⟩ (c_Coder_base l D Z kI a1 b1 n1 a2 b2 n2 a0 a3 H.size f1 l1 o1 f2 l2 o2 0 v3_value v3_held hr1 hr2) (cw_Coder_base hts k_778 ⟨Nat.le_of_ble_eq_true rfl, Nat.le_of_ble_eq_true rfl⟩) hK hZ hP hD hS hA [1, 2, 3, 4, 0, 5] [] (g_recv hK hP (ci := 1) (q0 := 0) rfl rfl) rfl rfl (by decide) (by decide) (by decide) rfl hl.1 rfl (Nat.le_of_ble_eq_true rfl) d_Coder_codeInto_13 ⟨Nat.zero_le _, Nat.zero_le _⟩ (fun u_3 H locs hw hP hD hS => ?_)
    obtain ⟨f2_3, l2_3, o2_3, v0_inLine_3, v3_value_3, v3_held_3⟩ := u_3
    have e_3 := hw.1
    have hr2_3 := hw.2
    have hP : va_P D vwCl [(a1, .inr (4, [.ref b1, .int (nI l1.length), .int o1])), (b1, .inl (kI, n1, .inl f1)), (a2, .inr (4, [.ref b2, .int (nI l2_3.length), .int o2_3])), (b2, .inl (kI, n2, .inl f2_3)), (a0, .inr (1, [.ref a3, .int v0_inLine_3])), (a3, .inr (0, [.int v3_value_3, .int v3_held_3]))] H := hP
    have hD : va_D A [(a1, .inr (4, [.ref b1, .int (nI l1.length), .int o1])), (b1, .inl (kI, n1, .inl f1)), (a2, .inr (4, [.ref b2, .int (nI l2_3.length), .int o2_3])), (b2, .inl (kI, n2, .inl f2_3)), (a0, .inr (1, [.ref a3, .int v0_inLine_3])), (a3, .inr (0, [.int v3_value_3, .int v3_held_3]))] := hD
    rw [e_3] at hF; dsimp only at hF
    refine lv_goto (tgt := 25) hx hb d_Coder_codeInto_16 (by decide) ?_
    exact hret (v0_inLine_3, f2_3, l2_3, o2_3, v3_value_3, v3_held_3) _ _ _ _ d_Coder_codeInto_25 (⟨hRES.symm.trans hF, hr2_3⟩) (hP.sub [4, 0, 1, 2, 3, 5] rfl) (hD.sub [4, 0, 1, 2, 3, 5] (by decide) rfl) hS
theorem cw_Coder_codeInto {R : Room} {s : State} {args : Array Value} {own : String} {idx : Nat} (hts : ∀ w ∈ gW, w.before args s = true) (hl : Cond.methodLink own idx y_Coder_codeInto ∈ gW) (hR : rm_Coder_codeInto.frames + 1 ≤ R.frames ∧ 8 + (4 + 11) + rm_Coder_codeInto.locals ≤ R.locals) : CallW R s args own "MailCharacters$Coder" idx y_Coder_codeInto b_Coder_codeInto 4 none w_Coder_codeInto rm_Coder_codeInto 0 0 3 := cwV 3 hts (gW_V hl k_775 k_776 k_73 k_777) rfl rfl rfl (by decide +kernel) hR
def m_MC_charset (l1 : List Int32) : Int32 × List Int32 × Int32 :=
  match m_Row_empty with
  | (l1_3, o1_3) =>
    ((m_Names_charsetOf l1 0 (m_Row_size l1)), l1_3, o1_3)
def rm_MC_charset : Room := { frames := 7, cells := 0, slots := 0, locals := 158 }
set_option maxHeartbeats 4000000 in
set_option maxRecDepth 100000 in
theorem c_MC_charset (l : Launch) (D : va_G) (Z : gZT) (kI : ClassId) (a0 : Nat) (x0_ready : Nat) (x0_text : Nat) (x0_uncoder : Nat) (x0_coder : Nat) (x0_reader : Nat) (x0_writer : Nat) (x0_word : Nat) (x0_spare : Nat) (a1 : Nat) (b1 : Nat) (n1 : Nat) (sz : Nat) (f1 : Nat → Int32) (l1 : List Int32) (o1 : Int32) (hr1 : g_rw n1 f1 l1) : gMi l y_MC_charset w_MC_charset rm_MC_charset D Z kI [.ref a0] sz [(a0, .inr (8, [.ref x0_ready, .ref x0_text, .ref x0_uncoder, .ref x0_coder, .ref x0_reader, .ref x0_writer, .ref x0_word, .ref a1, .ref x0_spare])), (a1, .inr (4, [.ref b1, .int (nI l1.length), .int o1])), (b1, .inl (kI, n1, .inl f1))] (fun (r : Int32) (u : (Nat → Int32) × List Int32 × Int32) => m_MC_charset l1 = (r, u.2.1, u.2.2) ∧ g_rw n1 u.1 u.2.1) (fun (u : (Nat → Int32) × List Int32 × Int32) => ([(a0, .inr (8, [.ref x0_ready, .ref x0_text, .ref x0_uncoder, .ref x0_coder, .ref x0_reader, .ref x0_writer, .ref x0_word, .ref a1, .ref x0_spare])), (a1, .inr (4, [.ref b1, .int (nI u.2.1.length), .int u.2.2])), (b1, .inl (kI, n1, .inl u.1))] : va_W)) := by
  refine g_ofi (cc := b_MC_charset) (maxL := 2) (ty := .int) (by decide) rfl (Nat.le_of_ble_eq_true rfl) ?_
  intro p e s m below meth c A Q H ls hx hb hml hown hts hA hK hZ hP hD hS hl hret
  have hown : s.vm.findClass "MailCharacters" = some m.cls := hown
  have hl : lv_has ls 2 [(0, .ref a0)] := hl
  obtain ⟨RES, hRES⟩ : ∃ z, z = m_MC_charset l1 := ⟨_, rfl⟩
  have hF := hRES
  rw [m_MC_charset] at hF
  refine lv_aload_n hx hb d_MC_charset_0 rfl (lv_at hl 0 rfl) ?_
  refine va_get (D := D) (ci := 8) (v := .ref a1) (C := "MailCharacters") (T := F_MC) (N := 9) hx hb hts i_MC hown hK hP 0 rfl rfl 7 (by decide) (hts _ k_243) (fun _ h9 => h9) rfl d_MC_charset_1 ?_
  refine lv_iconst (v := 0) hx hb d_MC_charset_4 (by decide) ?_
  refine lv_aload_n hx hb d_MC_charset_5 rfl (lv_at hl 0 rfl) ?_
  refine va_get (D := D) (ci := 8) (v := .ref a1) (C := "MailCharacters") (T := F_MC) (N := 9) hx hb hts i_MC hown hK hP 0 rfl rfl 7 (by decide) (hts _ k_243) (fun _ h9 => h9) rfl d_MC_charset_6 ?_
  refine g_Vi (As := []) (rest := [.int 0, .ref a1]) (wr := [(a0, .inr (8, [.ref x0_ready, .ref x0_text, .ref x0_uncoder, .ref x0_coder, .ref x0_reader, .ref x0_writer, .ref x0_word, .ref a1, .ref x0_spare]))]) ⟨hx, hb, hml, hown, hts⟩ (c_Row_size l D Z kI a1 b1 n1 H.size f1 l1 o1 hr1) (cw_Row_size hts k_281 ⟨Nat.le_of_ble_eq_true rfl, Nat.le_of_ble_eq_true rfl⟩) hK hZ hP hD hS hA [1, 2] [0] (g_recv hK hP (ci := 4) (q0 := 1) rfl rfl) rfl rfl (by decide) (by decide) (by decide) rfl hl.1 rfl (Nat.le_of_ble_eq_true rfl) d_MC_charset_9 ⟨Nat.zero_le _, Nat.zero_le _⟩ (fun r_1 u_1 H locs hw hP hD hS => ?_)
  have e_1 := hw
  subst e_1
  have hP : va_P D vwCl [(a0, .inr (8, [.ref x0_ready, .ref x0_text, .ref x0_uncoder, .ref x0_coder, .ref x0_reader, .ref x0_writer, .ref x0_word, .ref a1, .ref x0_spare])), (a1, .inr (4, [.ref b1, .int (nI l1.length), .int o1])), (b1, .inl (kI, n1, .inl f1))] H := hP
  have hD : va_D A [(a0, .inr (8, [.ref x0_ready, .ref x0_text, .ref x0_uncoder, .ref x0_coder, .ref x0_reader, .ref x0_writer, .ref x0_word, .ref a1, .ref x0_spare])), (a1, .inr (4, [.ref b1, .int (nI l1.length), .int o1])), (b1, .inl (kI, n1, .inl f1))] := hD
  refine g_Si (As := [.ref a1, .int 0, .int (m_Row_size l1)]) (rest := []) (wr := [(a0, .inr (8, [.ref x0_ready, .ref x0_text, .ref x0_uncoder, .ref x0_coder, .ref x0_reader, .ref x0_writer, .ref x0_word, .ref a1, .ref x0_spare]))]) ⟨hx, hb, hml, hown, hts⟩ (c_Names_charsetOf l D Z kI a1 b1 n1 H.size f1 l1 o1 0 (m_Row_size l1) hr1) (cw_Names_charsetOf hts k_289 ⟨Nat.le_of_ble_eq_true rfl, Nat.le_of_ble_eq_true rfl⟩) hK hZ hP hD hS hA [1, 2] [0] rfl rfl (by decide) (by decide) (by decide) rfl hl.1 rfl (Nat.le_of_ble_eq_true rfl) d_MC_charset_12 ⟨Nat.zero_le _, Nat.zero_le _⟩ (fun r_2 u_2 H locs hw hP hD hS => ?_)
  have e_2 := hw
  subst e_2
  have hP : va_P D vwCl [(a0, .inr (8, [.ref x0_ready, .ref x0_text, .ref x0_uncoder, .ref x0_coder, .ref x0_reader, .ref x0_writer, .ref x0_word, .ref a1, .ref x0_spare])), (a1, .inr (4, [.ref b1, .int (nI l1.length), .int o1])), (b1, .inl (kI, n1, .inl f1))] H := hP
  have hD : va_D A [(a0, .inr (8, [.ref x0_ready, .ref x0_text, .ref x0_uncoder, .ref x0_coder, .ref x0_reader, .ref x0_writer, .ref x0_word, .ref a1, .ref x0_spare])), (a1, .inr (4, [.ref b1, .int (nI l1.length), .int o1])), (b1, .inl (kI, n1, .inl f1))] := hD
  refine lv_istore_n (lv' := [(1, .int (m_Names_charsetOf l1 0 (m_Row_size l1))), (0, .ref a0)]) hx hb d_MC_charset_15 rfl hl (by decide) rfl (fun ls hl => ?_)
  refine lv_aload_n hx hb d_MC_charset_16 rfl (lv_at hl 1 rfl) ?_
  refine va_get (D := D) (ci := 8) (v := .ref a1) (C := "MailCharacters") (T := F_MC) (N := 9) hx hb hts i_MC hown hK hP 0 rfl rfl 7 (by decide) (hts _ k_243) (fun _ h9 => h9) rfl d_MC_charset_17 ?_
  refine g_Vv (As := []) (rest := []) (wr := [(a0, .inr (8, [.ref x0_ready, .ref x0_text, .ref x0_uncoder, .ref x0_coder, .ref x0_reader, .ref x0_writer, .ref x0_word, .ref a1, .ref x0_spare]))]) ⟨hx, hb, hml, hown, hts⟩ (c_Row_empty l D Z kI a1 b1 n1 H.size f1 l1 o1 hr1) (cw_Row_empty hts k_367 ⟨Nat.le_of_ble_eq_true rfl, Nat.le_of_ble_eq_true rfl⟩) hK hZ hP hD hS hA [1, 2] [0] (g_recv hK hP (ci := 4) (q0 := 1) rfl rfl) rfl rfl (by decide) (by decide) (by decide) rfl hl.1 rfl (Nat.le_of_ble_eq_true rfl) d_MC_charset_20 ⟨Nat.zero_le _, Nat.zero_le _⟩ (fun u_3 H locs hw hP hD hS => ?_)
  obtain ⟨f1_3, l1_3, o1_3⟩ := u_3
  have e_3 := hw.1
  have hr1_3 := hw.2
  have hP : va_P D vwCl [(a0, .inr (8, [.ref x0_ready, .ref x0_text, .ref x0_uncoder, .ref x0_coder, .ref x0_reader, .ref x0_writer, .ref x0_word, .ref a1, .ref x0_spare])), (a1, .inr (4, [.ref b1, .int (nI l1_3.length), .int o1_3])), (b1, .inl (kI, n1, .inl f1_3))] H := hP
  have hD : va_D A [(a0, .inr (8, [.ref x0_ready, .ref x0_text, .ref x0_uncoder, .ref x0_coder, .ref x0_reader, .ref x0_writer, .ref x0_word, .ref a1, .ref x0_spare])), (a1, .inr (4, [.ref b1, .int (nI l1_3.length), .int o1_3])), (b1, .inl (kI, n1, .inl f1_3))] := hD
  rw [e_3] at hF; dsimp only at hF
  refine lv_iload_n hx hb d_MC_charset_23 rfl (lv_at hl 0 rfl) ?_
  exact hret (m_Names_charsetOf l1 0 (m_Row_size l1)) (f1_3, l1_3, o1_3) _ _ _ _ d_MC_charset_24 rfl (⟨hRES.symm.trans hF, hr1_3⟩) hP hD hS
theorem cw_MC_charset {R : Room} {s : State} {args : Array Value} {own : String} {idx : Nat} (hts : ∀ w ∈ gW, w.before args s = true) (hl : Cond.methodLink own idx y_MC_charset ∈ gW) (hR : rm_MC_charset.frames + 1 ≤ R.frames ∧ 8 + (2 + 11) + rm_MC_charset.locals ≤ R.locals) : CallW R s args own "MailCharacters" idx y_MC_charset b_MC_charset 2 (some .int) w_MC_charset rm_MC_charset 0 0 0 := cwV 0 hts (gW_V hl k_286 k_287 k_67 k_288) rfl rfl rfl (by decide +kernel) hR
def m_Reader_readInto (n0 : Nat) (l0 : List Int32) (o0 : Int32) (l1 : List Int32) (v2_firstHalf : Int32) (v3_value : Int32) (v3_held : Int32) (p2 : Int32) (p3 : Int32) (p4 : Int32) : List Int32 × Int32 × Int32 × Int32 × Int32 :=
  if p4 = 4 then
    match (m_Reader_readUtf8 n0 l0 o0 l1 p2 p3) with
    | (l0_2, o0_2) =>
      (l0_2, o0_2, v2_firstHalf, v3_value, v3_held)
  else
    if p4 = 5 then
      match (m_Reader_readUtf16Marked n0 v2_firstHalf l0 o0 l1 p2 p3) with
      | (v2_firstHalf_4, l0_4, o0_4) =>
        (l0_4, o0_4, v2_firstHalf_4, v3_value, v3_held)
    else
      if p4 = 6 then
        match (m_Reader_readUtf16 n0 v2_firstHalf l0 o0 l1 p2 p3 1) with
        | (v2_firstHalf_6, l0_6, o0_6) =>
          (l0_6, o0_6, v2_firstHalf_6, v3_value, v3_held)
      else
        if p4 = 7 then
          match (m_Reader_readUtf16 n0 v2_firstHalf l0 o0 l1 p2 p3 0) with
          | (v2_firstHalf_8, l0_8, o0_8) =>
            (l0_8, o0_8, v2_firstHalf_8, v3_value, v3_held)
        else
          if p4 = 8 then
            match (m_Reader_readSingleBytes n0 l1 l0 o0 p2 p3 p4) with
            | (l0_10, o0_10) =>
              (l0_10, o0_10, v2_firstHalf, v3_value, v3_held)
          else
            if p4 = 9 then
              match (m_Reader_readUtf7 n0 v2_firstHalf l0 o0 l1 v3_value v3_held p2 p3) with
              | (v2_firstHalf_12, l0_12, o0_12, v3_value_12, v3_held_12) =>
                (l0_12, o0_12, v2_firstHalf_12, v3_value_12, v3_held_12)
            else
              match (m_Reader_readSingleBytes n0 l1 l0 o0 p2 p3 p4) with
              | (l0_13, o0_13) =>
                (l0_13, o0_13, v2_firstHalf, v3_value, v3_held)
def rm_Reader_readInto : Room := { frames := 5, cells := 0, slots := 0, locals := 119 }
set_option maxHeartbeats 4000000 in
set_option maxRecDepth 100000 in
theorem c_Reader_readInto (l : Launch) (D : va_G) (Z : gZT) (kI : ClassId) (a0 : Nat) (b0 : Nat) (n0 : Nat) (a1 : Nat) (b1 : Nat) (n1 : Nat) (a2 : Nat) (a3 : Nat) (sz : Nat) (f0 : Nat → Int32) (l0 : List Int32) (o0 : Int32) (f1 : Nat → Int32) (l1 : List Int32) (o1 : Int32) (v2_firstHalf : Int32) (v3_value : Int32) (v3_held : Int32) (p2 : Int32) (p3 : Int32) (p4 : Int32) (hr0 : g_rw n0 f0 l0) (hr1 : g_rw n1 f1 l1) (hpre0 : ¬ 3000 < p3.toInt) : gMv l y_Reader_readInto w_Reader_readInto rm_Reader_readInto D Z kI [.ref a2, .ref a1, .int p2, .int p3, .int p4, .ref a0] sz [(a0, .inr (4, [.ref b0, .int (nI l0.length), .int o0])), (b0, .inl (kI, n0, .inl f0)), (a1, .inr (4, [.ref b1, .int (nI l1.length), .int o1])), (b1, .inl (kI, n1, .inl f1)), (a2, .inr (3, [.ref a3, .int v2_firstHalf])), (a3, .inr (0, [.int v3_value, .int v3_held]))] (fun (u : (Nat → Int32) × List Int32 × Int32 × Int32 × Int32 × Int32) => m_Reader_readInto n0 l0 o0 l1 v2_firstHalf v3_value v3_held p2 p3 p4 = (u.2.1, u.2.2.1, u.2.2.2.1, u.2.2.2.2.1, u.2.2.2.2.2) ∧ g_rw n0 u.1 u.2.1) (fun (u : (Nat → Int32) × List Int32 × Int32 × Int32 × Int32 × Int32) => ([(a0, .inr (4, [.ref b0, .int (nI u.2.1.length), .int u.2.2.1])), (b0, .inl (kI, n0, .inl u.1)), (a1, .inr (4, [.ref b1, .int (nI l1.length), .int o1])), (b1, .inl (kI, n1, .inl f1)), (a2, .inr (3, [.ref a3, .int u.2.2.2.1])), (a3, .inr (0, [.int u.2.2.2.2.1, .int u.2.2.2.2.2]))] : va_W)) := by
  refine g_ofv (cc := b_Reader_readInto) (maxL := 6) (by decide) rfl (Nat.le_of_ble_eq_true rfl) ?_
  intro p e s m below meth c A Q H ls hx hb hml hown hts hA hK hZ hP hD hS hl hret
  have hown : s.vm.findClass "MailCharacters$Reader" = some m.cls := hown
  have hl : lv_has ls 6 [(0, .ref a2), (1, .ref a1), (2, .int p2), (3, .int p3), (4, .int p4), (5, .ref a0)] := hl
  obtain ⟨RES, hRES⟩ : ∃ z, z = m_Reader_readInto n0 l0 o0 l1 v2_firstHalf v3_value v3_held p2 p3 p4 := ⟨_, rfl⟩
  have hF := hRES
  rw [m_Reader_readInto] at hF
  refine lv_iload hx hb d_Reader_readInto_0 (lv_at hl 4 rfl) ?_
  by_cases c_1 : p4 = 4
  · rw [if_pos c_1] at hF
    refine lv_tableIn (off := 38) (tgt := 40) hx hb d_Reader_readInto_2 (by rw [c_1]; decide) (by rw [c_1]; decide) (by rw [c_1]; decide) (by decide) ?_
    refine lv_aload_n hx hb d_Reader_readInto_40 rfl (lv_at hl 1 rfl) ?_
    refine lv_iload_n hx hb d_Reader_readInto_41 rfl (lv_at hl 2 rfl) ?_
    refine lv_iload_n hx hb d_Reader_readInto_42 rfl (lv_at hl 3 rfl) ?_
    refine lv_aload hx hb d_Reader_readInto_43 (lv_at hl 5 rfl) ?_
    refine g_Sv (As := [.ref a1, .int p2, .int p3, .ref a0]) (rest := []) (wr := [(a2, .inr (3, [.ref a3, .int v2_firstHalf])), (a3, .inr (0, [.int v3_value, .int v3_held]))]) ⟨hx, hb, hml, hown, hts⟩ (c_Reader_readUtf8 l D Z kI a0 b0 n0 a1 b1 n1 H.size f0 l0 o0 f1 l1 o1 p2 p3 hr0 hr1) (cw_Reader_readUtf8 hts k_405 ⟨Nat.le_of_ble_eq_true rfl, Nat.le_of_ble_eq_true rfl⟩) hK hZ hP hD hS hA [0, 1, 2, 3] [4, 5] rfl rfl (by decide) (by decide) (by decide) rfl hl.1 rfl (Nat.le_of_ble_eq_true rfl) d_Reader_readInto_45 ⟨Nat.zero_le _, Nat.zero_le _⟩ (fun u_2 H locs hw hP hD hS => ?_)
    obtain ⟨f0_2, l0_2, o0_2⟩ := u_2
    have e_2 := hw.1
    have hr0_2 := hw.2
    have hP : va_P D vwCl [(a2, .inr (3, [.ref a3, .int v2_firstHalf])), (a3, .inr (0, [.int v3_value, .int v3_held])), (a0, .inr (4, [.ref b0, .int (nI l0_2.length), .int o0_2])), (b0, .inl (kI, n0, .inl f0_2)), (a1, .inr (4, [.ref b1, .int (nI l1.length), .int o1])), (b1, .inl (kI, n1, .inl f1))] H := hP
    have hD : va_D A [(a2, .inr (3, [.ref a3, .int v2_firstHalf])), (a3, .inr (0, [.int v3_value, .int v3_held])), (a0, .inr (4, [.ref b0, .int (nI l0_2.length), .int o0_2])), (b0, .inl (kI, n0, .inl f0_2)), (a1, .inr (4, [.ref b1, .int (nI l1.length), .int o1])), (b1, .inl (kI, n1, .inl f1))] := hD
    rw [e_2] at hF; dsimp only at hF
    refine lv_goto (tgt := 111) hx hb d_Reader_readInto_48 (by decide) ?_
    exact hret (f0_2, l0_2, o0_2, v2_firstHalf, v3_value, v3_held) _ _ _ _ d_Reader_readInto_111 (⟨hRES.symm.trans hF, hr0_2⟩) (hP.sub [2, 3, 4, 5, 0, 1] rfl) (hD.sub [2, 3, 4, 5, 0, 1] (by decide) rfl) hS
  rw [if_neg c_1] at hF
  by_cases c_3 : p4 = 5
  · rw [if_pos c_3] at hF
    refine lv_tableIn (off := 49) (tgt := 51) hx hb d_Reader_readInto_2 (by rw [c_3]; decide) (by rw [c_3]; decide) (by rw [c_3]; decide) (by decide) ?_
    refine lv_aload_n hx hb d_Reader_readInto_51 rfl (lv_at hl 0 rfl) ?_
    refine lv_aload_n hx hb d_Reader_readInto_52 rfl (lv_at hl 1 rfl) ?_
    refine lv_iload_n hx hb d_Reader_readInto_53 rfl (lv_at hl 2 rfl) ?_
    refine lv_iload_n hx hb d_Reader_readInto_54 rfl (lv_at hl 3 rfl) ?_
    refine lv_aload hx hb d_Reader_readInto_55 (lv_at hl 5 rfl) ?_
    refine g_Vv (As := [.ref a1, .int p2, .int p3, .ref a0]) (rest := []) (wr := [(a3, .inr (0, [.int v3_value, .int v3_held]))]) ⟨hx, hb, hml, hown, hts⟩ (c_Reader_readUtf16Marked l D Z kI a2 a3 a0 b0 n0 a1 b1 n1 H.size v2_firstHalf f0 l0 o0 f1 l1 o1 p2 p3 hr0 hr1 hpre0) (cw_Reader_readUtf16Marked hts k_420 ⟨Nat.le_of_ble_eq_true rfl, Nat.le_of_ble_eq_true rfl⟩) hK hZ hP hD hS hA [4, 0, 1, 2, 3] [5] (g_recv hK hP (ci := 3) (q0 := 4) rfl rfl) rfl rfl (by decide) (by decide) (by decide) rfl hl.1 rfl (Nat.le_of_ble_eq_true rfl) d_Reader_readInto_57 ⟨Nat.zero_le _, Nat.zero_le _⟩ (fun u_4 H locs hw hP hD hS => ?_)
    obtain ⟨v2_firstHalf_4, f0_4, l0_4, o0_4⟩ := u_4
    have e_4 := hw.1
    have hr0_4 := hw.2
    have hP : va_P D vwCl [(a3, .inr (0, [.int v3_value, .int v3_held])), (a2, .inr (3, [.ref a3, .int v2_firstHalf_4])), (a0, .inr (4, [.ref b0, .int (nI l0_4.length), .int o0_4])), (b0, .inl (kI, n0, .inl f0_4)), (a1, .inr (4, [.ref b1, .int (nI l1.length), .int o1])), (b1, .inl (kI, n1, .inl f1))] H := hP
    have hD : va_D A [(a3, .inr (0, [.int v3_value, .int v3_held])), (a2, .inr (3, [.ref a3, .int v2_firstHalf_4])), (a0, .inr (4, [.ref b0, .int (nI l0_4.length), .int o0_4])), (b0, .inl (kI, n0, .inl f0_4)), (a1, .inr (4, [.ref b1, .int (nI l1.length), .int o1])), (b1, .inl (kI, n1, .inl f1))] := hD
    rw [e_4] at hF; dsimp only at hF
    refine lv_goto (tgt := 111) hx hb d_Reader_readInto_60 (by decide) ?_
    exact hret (f0_4, l0_4, o0_4, v2_firstHalf_4, v3_value, v3_held) _ _ _ _ d_Reader_readInto_111 (⟨hRES.symm.trans hF, hr0_4⟩) (hP.sub [2, 3, 4, 5, 1, 0] rfl) (hD.sub [2, 3, 4, 5, 1, 0] (by decide) rfl) hS
  rw [if_neg c_3] at hF
  by_cases c_5 : p4 = 6
  · rw [if_pos c_5] at hF
    refine lv_tableIn (off := 61) (tgt := 63) hx hb d_Reader_readInto_2 (by rw [c_5]; decide) (by rw [c_5]; decide) (by rw [c_5]; decide) (by decide) ?_
    refine lv_aload_n hx hb d_Reader_readInto_63 rfl (lv_at hl 0 rfl) ?_
    refine lv_aload_n hx hb d_Reader_readInto_64 rfl (lv_at hl 1 rfl) ?_
    refine lv_iload_n hx hb d_Reader_readInto_65 rfl (lv_at hl 2 rfl) ?_
    refine lv_iload_n hx hb d_Reader_readInto_66 rfl (lv_at hl 3 rfl) ?_
    refine lv_iconst (v := 1) hx hb d_Reader_readInto_67 (by decide) ?_
    refine lv_aload hx hb d_Reader_readInto_68 (lv_at hl 5 rfl) ?_
    refine g_Vv (As := [.ref a1, .int p2, .int p3, .int 1, .ref a0]) (rest := []) (wr := [(a3, .inr (0, [.int v3_value, .int v3_held]))]) ⟨hx, hb, hml, hown, hts⟩ (c_Reader_readUtf16 l D Z kI a2 a3 a0 b0 n0 a1 b1 n1 H.size v2_firstHalf f0 l0 o0 f1 l1 o1 p2 p3 1 hr0 hr1 hpre0) (cw_Reader_readUtf16 hts k_424 ⟨Nat.le_of_ble_eq_true rfl, Nat.le_of_ble_eq_true rfl⟩) hK hZ hP hD hS hA [4, 0, 1, 2, 3] [5] (g_recv hK hP (ci := 3) (q0 := 4) rfl rfl) rfl rfl (by decide) (by decide) (by decide) rfl hl.1 rfl (Nat.le_of_ble_eq_true rfl) d_Reader_readInto_70 ⟨Nat.zero_le _, Nat.zero_le _⟩ (fun u_6 H locs hw hP hD hS => ?_)
    obtain ⟨v2_firstHalf_6, f0_6, l0_6, o0_6⟩ := u_6
    have e_6 := hw.1
    have hr0_6 := hw.2
    have hP : va_P D vwCl [(a3, .inr (0, [.int v3_value, .int v3_held])), (a2, .inr (3, [.ref a3, .int v2_firstHalf_6])), (a0, .inr (4, [.ref b0, .int (nI l0_6.length), .int o0_6])), (b0, .inl (kI, n0, .inl f0_6)), (a1, .inr (4, [.ref b1, .int (nI l1.length), .int o1])), (b1, .inl (kI, n1, .inl f1))] H := hP
    have hD : va_D A [(a3, .inr (0, [.int v3_value, .int v3_held])), (a2, .inr (3, [.ref a3, .int v2_firstHalf_6])), (a0, .inr (4, [.ref b0, .int (nI l0_6.length), .int o0_6])), (b0, .inl (kI, n0, .inl f0_6)), (a1, .inr (4, [.ref b1, .int (nI l1.length), .int o1])), (b1, .inl (kI, n1, .inl f1))] := hD
    rw [e_6] at hF; dsimp only at hF
    refine lv_goto (tgt := 111) hx hb d_Reader_readInto_73 (by decide) ?_
    exact hret (f0_6, l0_6, o0_6, v2_firstHalf_6, v3_value, v3_held) _ _ _ _ d_Reader_readInto_111 (⟨hRES.symm.trans hF, hr0_6⟩) (hP.sub [2, 3, 4, 5, 1, 0] rfl) (hD.sub [2, 3, 4, 5, 1, 0] (by decide) rfl) hS
  rw [if_neg c_5] at hF
  by_cases c_7 : p4 = 7
  · rw [if_pos c_7] at hF
    refine lv_tableIn (off := 74) (tgt := 76) hx hb d_Reader_readInto_2 (by rw [c_7]; decide) (by rw [c_7]; decide) (by rw [c_7]; decide) (by decide) ?_
    refine lv_aload_n hx hb d_Reader_readInto_76 rfl (lv_at hl 0 rfl) ?_
    refine lv_aload_n hx hb d_Reader_readInto_77 rfl (lv_at hl 1 rfl) ?_
    refine lv_iload_n hx hb d_Reader_readInto_78 rfl (lv_at hl 2 rfl) ?_
    refine lv_iload_n hx hb d_Reader_readInto_79 rfl (lv_at hl 3 rfl) ?_
    refine lv_iconst (v := 0) hx hb d_Reader_readInto_80 (by decide) ?_
    refine lv_aload hx hb d_Reader_readInto_81 (lv_at hl 5 rfl) ?_
    refine g_Vv (As := [.ref a1, .int p2, .int p3, .int 0, .ref a0]) (rest := []) (wr := [(a3, .inr (0, [.int v3_value, .int v3_held]))]) ⟨hx, hb, hml, hown, hts⟩ (c_Reader_readUtf16 l D Z kI a2 a3 a0 b0 n0 a1 b1 n1 H.size v2_firstHalf f0 l0 o0 f1 l1 o1 p2 p3 0 hr0 hr1 hpre0) (cw_Reader_readUtf16 hts k_424 ⟨Nat.le_of_ble_eq_true rfl, Nat.le_of_ble_eq_true rfl⟩) hK hZ hP hD hS hA [4, 0, 1, 2, 3] [5] (g_recv hK hP (ci := 3) (q0 := 4) rfl rfl) rfl rfl (by decide) (by decide) (by decide) rfl hl.1 rfl (Nat.le_of_ble_eq_true rfl) d_Reader_readInto_83 ⟨Nat.zero_le _, Nat.zero_le _⟩ (fun u_8 H locs hw hP hD hS => ?_)
    obtain ⟨v2_firstHalf_8, f0_8, l0_8, o0_8⟩ := u_8
    have e_8 := hw.1
    have hr0_8 := hw.2
    have hP : va_P D vwCl [(a3, .inr (0, [.int v3_value, .int v3_held])), (a2, .inr (3, [.ref a3, .int v2_firstHalf_8])), (a0, .inr (4, [.ref b0, .int (nI l0_8.length), .int o0_8])), (b0, .inl (kI, n0, .inl f0_8)), (a1, .inr (4, [.ref b1, .int (nI l1.length), .int o1])), (b1, .inl (kI, n1, .inl f1))] H := hP
    have hD : va_D A [(a3, .inr (0, [.int v3_value, .int v3_held])), (a2, .inr (3, [.ref a3, .int v2_firstHalf_8])), (a0, .inr (4, [.ref b0, .int (nI l0_8.length), .int o0_8])), (b0, .inl (kI, n0, .inl f0_8)), (a1, .inr (4, [.ref b1, .int (nI l1.length), .int o1])), (b1, .inl (kI, n1, .inl f1))] := hD
    rw [e_8] at hF; dsimp only at hF
    refine lv_goto (tgt := 111) hx hb d_Reader_readInto_86 (by decide) ?_
    exact hret (f0_8, l0_8, o0_8, v2_firstHalf_8, v3_value, v3_held) _ _ _ _ d_Reader_readInto_111 (⟨hRES.symm.trans hF, hr0_8⟩) (hP.sub [2, 3, 4, 5, 1, 0] rfl) (hD.sub [2, 3, 4, 5, 1, 0] (by decide) rfl) hS
  rw [if_neg c_7] at hF
  by_cases c_9 : p4 = 8
  · rw [if_pos c_9] at hF
    refine lv_tableIn (off := 99) (tgt := 101) hx hb d_Reader_readInto_2 (by rw [c_9]; decide) (by rw [c_9]; decide) (by rw [c_9]; decide) (by decide) ?_
    refine lv_aload_n hx hb d_Reader_readInto_101 rfl (lv_at hl 1 rfl) ?_
    refine lv_iload_n hx hb d_Reader_readInto_102 rfl (lv_at hl 2 rfl) ?_
    refine lv_iload_n hx hb d_Reader_readInto_103 rfl (lv_at hl 3 rfl) ?_
    refine lv_iload hx hb d_Reader_readInto_104 (lv_at hl 4 rfl) ?_
    refine lv_aload hx hb d_Reader_readInto_106 (lv_at hl 5 rfl) ?_
    refine g_Sv (As := [.ref a1, .int p2, .int p3, .int p4, .ref a0]) (rest := []) (wr := [(a2, .inr (3, [.ref a3, .int v2_firstHalf])), (a3, .inr (0, [.int v3_value, .int v3_held]))]) ⟨hx, hb, hml, hown, hts⟩ (c_Reader_readSingleBytes l D Z kI a1 b1 n1 a0 b0 n0 H.size f1 l1 o1 f0 l0 o0 p2 p3 p4 hr1 hr0) (cw_Reader_readSingleBytes hts k_468 ⟨Nat.le_of_ble_eq_true rfl, Nat.le_of_ble_eq_true rfl⟩) hK hZ hP hD hS hA [2, 3, 0, 1] [4, 5] rfl rfl (by decide) (by decide) (by decide) rfl hl.1 rfl (Nat.le_of_ble_eq_true rfl) d_Reader_readInto_108 ⟨Nat.zero_le _, Nat.zero_le _⟩ (fun u_10 H locs hw hP hD hS => ?_)
    obtain ⟨f0_10, l0_10, o0_10⟩ := u_10
    have e_10 := hw.1
    have hr0_10 := hw.2
    have hP : va_P D vwCl [(a2, .inr (3, [.ref a3, .int v2_firstHalf])), (a3, .inr (0, [.int v3_value, .int v3_held])), (a1, .inr (4, [.ref b1, .int (nI l1.length), .int o1])), (b1, .inl (kI, n1, .inl f1)), (a0, .inr (4, [.ref b0, .int (nI l0_10.length), .int o0_10])), (b0, .inl (kI, n0, .inl f0_10))] H := hP
    have hD : va_D A [(a2, .inr (3, [.ref a3, .int v2_firstHalf])), (a3, .inr (0, [.int v3_value, .int v3_held])), (a1, .inr (4, [.ref b1, .int (nI l1.length), .int o1])), (b1, .inl (kI, n1, .inl f1)), (a0, .inr (4, [.ref b0, .int (nI l0_10.length), .int o0_10])), (b0, .inl (kI, n0, .inl f0_10))] := hD
    rw [e_10] at hF; dsimp only at hF
    exact hret (f0_10, l0_10, o0_10, v2_firstHalf, v3_value, v3_held) _ _ _ _ d_Reader_readInto_111 (⟨hRES.symm.trans hF, hr0_10⟩) (hP.sub [4, 5, 2, 3, 0, 1] rfl) (hD.sub [4, 5, 2, 3, 0, 1] (by decide) rfl) hS
  rw [if_neg c_9] at hF
  by_cases c_11 : p4 = 9
  · rw [if_pos c_11] at hF
    refine lv_tableIn (off := 87) (tgt := 89) hx hb d_Reader_readInto_2 (by rw [c_11]; decide) (by rw [c_11]; decide) (by rw [c_11]; decide) (by decide) ?_
    refine lv_aload_n hx hb d_Reader_readInto_89 rfl (lv_at hl 0 rfl) ?_
    refine lv_aload_n hx hb d_Reader_readInto_90 rfl (lv_at hl 1 rfl) ?_
    refine lv_iload_n hx hb d_Reader_readInto_91 rfl (lv_at hl 2 rfl) ?_
    refine lv_iload_n hx hb d_Reader_readInto_92 rfl (lv_at hl 3 rfl) ?_
    refine lv_aload hx hb d_Reader_readInto_93 (lv_at hl 5 rfl) ?_
    refine g_Vv (As := [.ref a1, .int p2, .int p3, .ref a0]) (rest := []) (wr := []) ⟨hx, hb, hml, hown, hts⟩ (c_Reader_readUtf7 l D Z kI a2 a0 b0 n0 a1 b1 n1 a3 H.size v2_firstHalf f0 l0 o0 f1 l1 o1 v3_value v3_held p2 p3 hr0 hr1) (cw_Reader_readUtf7 hts k_441 ⟨Nat.le_of_ble_eq_true rfl, Nat.le_of_ble_eq_true rfl⟩) hK hZ hP hD hS hA [4, 0, 1, 2, 3, 5] [] (g_recv hK hP (ci := 3) (q0 := 4) rfl rfl) rfl rfl (by decide) (by decide) (by decide) rfl hl.1 rfl (Nat.le_of_ble_eq_true rfl) d_Reader_readInto_95 ⟨Nat.zero_le _, Nat.zero_le _⟩ (fun u_12 H locs hw hP hD hS => ?_)
    obtain ⟨v2_firstHalf_12, f0_12, l0_12, o0_12, v3_value_12, v3_held_12⟩ := u_12
    have e_12 := hw.1
    have hr0_12 := hw.2
    have hP : va_P D vwCl [(a2, .inr (3, [.ref a3, .int v2_firstHalf_12])), (a0, .inr (4, [.ref b0, .int (nI l0_12.length), .int o0_12])), (b0, .inl (kI, n0, .inl f0_12)), (a1, .inr (4, [.ref b1, .int (nI l1.length), .int o1])), (b1, .inl (kI, n1, .inl f1)), (a3, .inr (0, [.int v3_value_12, .int v3_held_12]))] H := hP
    have hD : va_D A [(a2, .inr (3, [.ref a3, .int v2_firstHalf_12])), (a0, .inr (4, [.ref b0, .int (nI l0_12.length), .int o0_12])), (b0, .inl (kI, n0, .inl f0_12)), (a1, .inr (4, [.ref b1, .int (nI l1.length), .int o1])), (b1, .inl (kI, n1, .inl f1)), (a3, .inr (0, [.int v3_value_12, .int v3_held_12]))] := hD
    rw [e_12] at hF; dsimp only at hF
    refine lv_goto (tgt := 111) hx hb d_Reader_readInto_98 (by decide) ?_
    exact hret (f0_12, l0_12, o0_12, v2_firstHalf_12, v3_value_12, v3_held_12) _ _ _ _ d_Reader_readInto_111 (⟨hRES.symm.trans hF, hr0_12⟩) (hP.sub [1, 2, 3, 4, 0, 5] rfl) (hD.sub [1, 2, 3, 4, 0, 5] (by decide) rfl) hS
  rw [if_neg c_11] at hF
  refine lv_tableOut (tgt := 101) hx hb d_Reader_readInto_2 (by have := lv_neT c_1 (a := 4) (by decide); have := lv_neT c_3 (a := 5) (by decide); have := lv_neT c_5 (a := 6) (by decide); have := lv_neT c_7 (a := 7) (by decide); have := lv_neT c_9 (a := 8) (by decide); have := lv_neT c_11 (a := 9) (by decide); omega) (by decide) ?_
  refine lv_aload_n hx hb d_Reader_readInto_101 rfl (lv_at hl 1 rfl) ?_
  refine lv_iload_n hx hb d_Reader_readInto_102 rfl (lv_at hl 2 rfl) ?_
  refine lv_iload_n hx hb d_Reader_readInto_103 rfl (lv_at hl 3 rfl) ?_
  refine lv_iload hx hb d_Reader_readInto_104 (lv_at hl 4 rfl) ?_
  refine lv_aload hx hb d_Reader_readInto_106 (lv_at hl 5 rfl) ?_
  refine g_Sv (As := [.ref a1, .int p2, .int p3, .int p4, .ref a0]) (rest := []) (wr := [(a2, .inr (3, [.ref a3, .int v2_firstHalf])), (a3, .inr (0, [.int v3_value, .int v3_held]))]) ⟨hx, hb, hml, hown, hts⟩ (c_Reader_readSingleBytes l D Z kI a1 b1 n1 a0 b0 n0 H.size f1 l1 o1 f0 l0 o0 p2 p3 p4 hr1 hr0) (cw_Reader_readSingleBytes hts k_468 ⟨Nat.le_of_ble_eq_true rfl, Nat.le_of_ble_eq_true rfl⟩) hK hZ hP hD hS hA [2, 3, 0, 1] [4, 5] rfl rfl (by decide) (by decide) (by decide) rfl hl.1 rfl (Nat.le_of_ble_eq_true rfl) d_Reader_readInto_108 ⟨Nat.zero_le _, Nat.zero_le _⟩ (fun u_13 H locs hw hP hD hS => ?_)
  obtain ⟨f0_13, l0_13, o0_13⟩ := u_13
  have e_13 := hw.1
  have hr0_13 := hw.2
  have hP : va_P D vwCl [(a2, .inr (3, [.ref a3, .int v2_firstHalf])), (a3, .inr (0, [.int v3_value, .int v3_held])), (a1, .inr (4, [.ref b1, .int (nI l1.length), .int o1])), (b1, .inl (kI, n1, .inl f1)), (a0, .inr (4, [.ref b0, .int (nI l0_13.length), .int o0_13])), (b0, .inl (kI, n0, .inl f0_13))] H := hP
  have hD : va_D A [(a2, .inr (3, [.ref a3, .int v2_firstHalf])), (a3, .inr (0, [.int v3_value, .int v3_held])), (a1, .inr (4, [.ref b1, .int (nI l1.length), .int o1])), (b1, .inl (kI, n1, .inl f1)), (a0, .inr (4, [.ref b0, .int (nI l0_13.length), .int o0_13])), (b0, .inl (kI, n0, .inl f0_13))] := hD
  rw [e_13] at hF; dsimp only at hF
  exact hret (f0_13, l0_13, o0_13, v2_firstHalf, v3_value, v3_held) _ _ _ _ d_Reader_readInto_111 (⟨hRES.symm.trans hF, hr0_13⟩) (hP.sub [4, 5, 2, 3, 0, 1] rfl) (hD.sub [4, 5, 2, 3, 0, 1] (by decide) rfl) hS
theorem cw_Reader_readInto {R : Room} {s : State} {args : Array Value} {own : String} {idx : Nat} (hts : ∀ w ∈ gW, w.before args s = true) (hl : Cond.methodLink own idx y_Reader_readInto ∈ gW) (hR : rm_Reader_readInto.frames + 1 ≤ R.frames ∧ 8 + (6 + 11) + rm_Reader_readInto.locals ≤ R.locals) : CallW R s args own "MailCharacters$Reader" idx y_Reader_readInto b_Reader_readInto 6 none w_Reader_readInto rm_Reader_readInto 0 0 5 := cwV 5 hts (gW_V hl k_402 k_403 k_74 k_404) rfl rfl rfl (by decide +kernel) hR
def m_MC_readWord (n1 : Nat) (n6 : Nat) (v2_charset : Int32) (v2_based : Int32) (v2_from : Int32) (v2_to : Int32) (l3 : List Int32) (v5_value : Int32) (v5_held : Int32) (l6 : List Int32) (o6 : Int32) (v7_firstHalf : Int32) (v8_value : Int32) (v8_held : Int32) : List Int32 × Int32 × Int32 × Int32 × List Int32 × Int32 × Int32 × Int32 × Int32 :=
  match m_Row_empty with
  | (l1_1, o1_1) =>
    match (m_Uncoder_uncodeWord n1 v2_based v2_from v2_to l3 l1_1 o1_1 v5_value v5_held) with
    | (l8_2, o8_2, v4_value_2, v4_held_2) =>
      match (m_Reader_readInto n6 l6 o6 l8_2 v7_firstHalf v8_value v8_held 0 (m_Row_size l8_2) v2_charset) with
      | (l1_4, o1_4, v2_firstHalf_4, v3_value_4, v3_held_4) =>
        (l8_2, o8_2, v4_value_2, v4_held_2, l1_4, o1_4, v2_firstHalf_4, v3_value_4, v3_held_4)
def rm_MC_readWord : Room := { frames := 6, cells := 0, slots := 0, locals := 144 }
set_option maxHeartbeats 4000000 in
set_option maxRecDepth 100000 in
theorem c_MC_readWord (l : Launch) (D : va_G) (Z : gZT) (kI : ClassId) (a0 : Nat) (x0_ready : Nat) (x0_coder : Nat) (x0_writer : Nat) (a1 : Nat) (b1 : Nat) (n1 : Nat) (a2 : Nat) (a3 : Nat) (b3 : Nat) (n3 : Nat) (a4 : Nat) (x4_line : Nat) (a5 : Nat) (a6 : Nat) (b6 : Nat) (n6 : Nat) (a7 : Nat) (a8 : Nat) (sz : Nat) (f1 : Nat → Int32) (l1 : List Int32) (o1 : Int32) (v2_charset : Int32) (v2_based : Int32) (v2_from : Int32) (v2_to : Int32) (v2_next : Int32) (f3 : Nat → Int32) (l3 : List Int32) (o3 : Int32) (v5_value : Int32) (v5_held : Int32) (f6 : Nat → Int32) (l6 : List Int32) (o6 : Int32) (v7_firstHalf : Int32) (v8_value : Int32) (v8_held : Int32) (hr1 : g_rw n1 f1 l1) (hr3 : g_rw n3 f3 l3) (hr6 : g_rw n6 f6 l6) : gMv l y_MC_readWord w_MC_readWord rm_MC_readWord D Z kI [.ref a0] sz [(a0, .inr (8, [.ref x0_ready, .ref a6, .ref a4, .ref x0_coder, .ref a7, .ref x0_writer, .ref a2, .ref a3, .ref a1])), (a1, .inr (4, [.ref b1, .int (nI l1.length), .int o1])), (b1, .inl (kI, n1, .inl f1)), (a2, .inr (6, [.int v2_charset, .int v2_based, .int v2_from, .int v2_to, .int v2_next])), (a3, .inr (4, [.ref b3, .int (nI l3.length), .int o3])), (b3, .inl (kI, n3, .inl f3)), (a4, .inr (5, [.ref a5, .ref x4_line])), (a5, .inr (0, [.int v5_value, .int v5_held])), (a6, .inr (4, [.ref b6, .int (nI l6.length), .int o6])), (b6, .inl (kI, n6, .inl f6)), (a7, .inr (3, [.ref a8, .int v7_firstHalf])), (a8, .inr (0, [.int v8_value, .int v8_held]))] (fun (u : (Nat → Int32) × List Int32 × Int32 × Int32 × Int32 × (Nat → Int32) × List Int32 × Int32 × Int32 × Int32 × Int32) => m_MC_readWord n1 n6 v2_charset v2_based v2_from v2_to l3 v5_value v5_held l6 o6 v7_firstHalf v8_value v8_held = (u.2.1, u.2.2.1, u.2.2.2.1, u.2.2.2.2.1, u.2.2.2.2.2.2.1, u.2.2.2.2.2.2.2.1, u.2.2.2.2.2.2.2.2.1, u.2.2.2.2.2.2.2.2.2.1, u.2.2.2.2.2.2.2.2.2.2) ∧ g_rw n1 u.1 u.2.1 ∧ g_rw n6 u.2.2.2.2.2.1 u.2.2.2.2.2.2.1) (fun (u : (Nat → Int32) × List Int32 × Int32 × Int32 × Int32 × (Nat → Int32) × List Int32 × Int32 × Int32 × Int32 × Int32) => ([(a0, .inr (8, [.ref x0_ready, .ref a6, .ref a4, .ref x0_coder, .ref a7, .ref x0_writer, .ref a2, .ref a3, .ref a1])), (a1, .inr (4, [.ref b1, .int (nI u.2.1.length), .int u.2.2.1])), (b1, .inl (kI, n1, .inl u.1)), (a2, .inr (6, [.int v2_charset, .int v2_based, .int v2_from, .int v2_to, .int v2_next])), (a3, .inr (4, [.ref b3, .int (nI l3.length), .int o3])), (b3, .inl (kI, n3, .inl f3)), (a4, .inr (5, [.ref a5, .ref x4_line])), (a5, .inr (0, [.int u.2.2.2.1, .int u.2.2.2.2.1])), (a6, .inr (4, [.ref b6, .int (nI u.2.2.2.2.2.2.1.length), .int u.2.2.2.2.2.2.2.1])), (b6, .inl (kI, n6, .inl u.2.2.2.2.2.1)), (a7, .inr (3, [.ref a8, .int u.2.2.2.2.2.2.2.2.1])), (a8, .inr (0, [.int u.2.2.2.2.2.2.2.2.2.1, .int u.2.2.2.2.2.2.2.2.2.2]))] : va_W)) := by
  refine g_ofv (cc := b_MC_readWord) (maxL := 1) (by decide) rfl (Nat.le_of_ble_eq_true rfl) ?_
  intro p e s m below meth c A Q H ls hx hb hml hown hts hA hK hZ hP hD hS hl hret
  have hown : s.vm.findClass "MailCharacters" = some m.cls := hown
  have hl : lv_has ls 1 [(0, .ref a0)] := hl
  obtain ⟨RES, hRES⟩ : ∃ z, z = m_MC_readWord n1 n6 v2_charset v2_based v2_from v2_to l3 v5_value v5_held l6 o6 v7_firstHalf v8_value v8_held := ⟨_, rfl⟩
  have hF := hRES
  rw [m_MC_readWord] at hF
  refine lv_aload_n hx hb d_MC_readWord_0 rfl (lv_at hl 0 rfl) ?_
  refine va_get (D := D) (ci := 8) (v := .ref a1) (C := "MailCharacters") (T := F_MC) (N := 9) hx hb hts i_MC hown hK hP 0 rfl rfl 8 (by decide) (hts _ k_244) (fun _ h9 => h9) rfl d_MC_readWord_1 ?_
  refine g_Vv (As := []) (rest := []) (wr := [(a0, .inr (8, [.ref x0_ready, .ref a6, .ref a4, .ref x0_coder, .ref a7, .ref x0_writer, .ref a2, .ref a3, .ref a1])), (a2, .inr (6, [.int v2_charset, .int v2_based, .int v2_from, .int v2_to, .int v2_next])), (a3, .inr (4, [.ref b3, .int (nI l3.length), .int o3])), (b3, .inl (kI, n3, .inl f3)), (a4, .inr (5, [.ref a5, .ref x4_line])), (a5, .inr (0, [.int v5_value, .int v5_held])), (a6, .inr (4, [.ref b6, .int (nI l6.length), .int o6])), (b6, .inl (kI, n6, .inl f6)), (a7, .inr (3, [.ref a8, .int v7_firstHalf])), (a8, .inr (0, [.int v8_value, .int v8_held]))]) ⟨hx, hb, hml, hown, hts⟩ (c_Row_empty l D Z kI a1 b1 n1 H.size f1 l1 o1 hr1) (cw_Row_empty hts k_367 ⟨Nat.le_of_ble_eq_true rfl, Nat.le_of_ble_eq_true rfl⟩) hK hZ hP hD hS hA [1, 2] [0, 3, 4, 5, 6, 7, 8, 9, 10, 11] (g_recv hK hP (ci := 4) (q0 := 1) rfl rfl) rfl rfl (by decide) (by decide) (by decide) rfl hl.1 rfl (Nat.le_of_ble_eq_true rfl) d_MC_readWord_4 ⟨Nat.zero_le _, Nat.zero_le _⟩ (fun u_1 H locs hw hP hD hS => ?_)
  obtain ⟨f1_1, l1_1, o1_1⟩ := u_1
  have e_1 := hw.1
  have hr1_1 := hw.2
  have hP : va_P D vwCl [(a0, .inr (8, [.ref x0_ready, .ref a6, .ref a4, .ref x0_coder, .ref a7, .ref x0_writer, .ref a2, .ref a3, .ref a1])), (a2, .inr (6, [.int v2_charset, .int v2_based, .int v2_from, .int v2_to, .int v2_next])), (a3, .inr (4, [.ref b3, .int (nI l3.length), .int o3])), (b3, .inl (kI, n3, .inl f3)), (a4, .inr (5, [.ref a5, .ref x4_line])), (a5, .inr (0, [.int v5_value, .int v5_held])), (a6, .inr (4, [.ref b6, .int (nI l6.length), .int o6])), (b6, .inl (kI, n6, .inl f6)), (a7, .inr (3, [.ref a8, .int v7_firstHalf])), (a8, .inr (0, [.int v8_value, .int v8_held])), (a1, .inr (4, [.ref b1, .int (nI l1_1.length), .int o1_1])), (b1, .inl (kI, n1, .inl f1_1))] H := hP
  have hD : va_D A [(a0, .inr (8, [.ref x0_ready, .ref a6, .ref a4, .ref x0_coder, .ref a7, .ref x0_writer, .ref a2, .ref a3, .ref a1])), (a2, .inr (6, [.int v2_charset, .int v2_based, .int v2_from, .int v2_to, .int v2_next])), (a3, .inr (4, [.ref b3, .int (nI l3.length), .int o3])), (b3, .inl (kI, n3, .inl f3)), (a4, .inr (5, [.ref a5, .ref x4_line])), (a5, .inr (0, [.int v5_value, .int v5_held])), (a6, .inr (4, [.ref b6, .int (nI l6.length), .int o6])), (b6, .inl (kI, n6, .inl f6)), (a7, .inr (3, [.ref a8, .int v7_firstHalf])), (a8, .inr (0, [.int v8_value, .int v8_held])), (a1, .inr (4, [.ref b1, .int (nI l1_1.length), .int o1_1])), (b1, .inl (kI, n1, .inl f1_1))] := hD
  rw [e_1] at hF; dsimp only at hF
  refine lv_aload_n hx hb d_MC_readWord_7 rfl (lv_at hl 0 rfl) ?_
  refine va_get (D := D) (ci := 8) (v := .ref a4) (C := "MailCharacters") (T := F_MC) (N := 9) hx hb hts i_MC hown hK hP 0 rfl rfl 2 (by decide) (hts _ k_238) (fun _ h9 => h9) rfl d_MC_readWord_8 ?_
  refine lv_aload_n hx hb d_MC_readWord_11 rfl (lv_at hl 0 rfl) ?_
  refine va_get (D := D) (ci := 8) (v := .ref a3) (C := "MailCharacters") (T := F_MC) (N := 9) hx hb hts i_MC hown hK hP 0 rfl rfl 7 (by decide) (hts _ k_243) (fun _ h9 => h9) rfl d_MC_readWord_12 ?_
  refine lv_aload_n hx hb d_MC_readWord_15 rfl (lv_at hl 0 rfl) ?_
  refine va_get (D := D) (ci := 8) (v := .ref a2) (C := "MailCharacters") (T := F_MC) (N := 9) hx hb hts i_MC hown hK hP 0 rfl rfl 6 (by decide) (hts _ k_242) (fun _ h9 => h9) rfl d_MC_readWord_16 ?_
  refine lv_aload_n hx hb d_MC_readWord_19 rfl (lv_at hl 0 rfl) ?_
  refine va_get (D := D) (ci := 8) (v := .ref a1) (C := "MailCharacters") (T := F_MC) (N := 9) hx hb hts i_MC hown hK hP 0 rfl rfl 8 (by decide) (hts _ k_244) (fun _ h9 => h9) rfl d_MC_readWord_20 ?_
  refine g_Vv (As := [.ref a3, .ref a2, .ref a1]) (rest := []) (wr := [(a0, .inr (8, [.ref x0_ready, .ref a6, .ref a4, .ref x0_coder, .ref a7, .ref x0_writer, .ref a2, .ref a3, .ref a1])), (a6, .inr (4, [.ref b6, .int (nI l6.length), .int o6])), (b6, .inl (kI, n6, .inl f6)), (a7, .inr (3, [.ref a8, .int v7_firstHalf])), (a8, .inr (0, [.int v8_value, .int v8_held]))]) ⟨hx, hb, hml, hown, hts⟩ (c_Uncoder_uncodeWord l D Z kI a2 a3 b3 n3 a1 b1 n1 a4 x4_line a5 H.size v2_charset v2_based v2_from v2_to v2_next f3 l3 o3 f1_1 l1_1 o1_1 v5_value v5_held hr3 hr1_1) (cw_Uncoder_uncodeWord hts k_494 ⟨Nat.le_of_ble_eq_true rfl, Nat.le_of_ble_eq_true rfl⟩) hK hZ hP hD hS hA [1, 2, 3, 10, 11, 4, 5] [0, 6, 7, 8, 9] (g_recv hK hP (ci := 5) (q0 := 4) rfl rfl) rfl rfl (by decide) (by decide) (by decide) rfl hl.1 rfl (Nat.le_of_ble_eq_true rfl) d_MC_readWord_23 ⟨Nat.zero_le _, Nat.zero_le _⟩ (fun u_2 H locs hw hP hD hS => ?_)
  obtain ⟨f8_2, l8_2, o8_2, v4_value_2, v4_held_2⟩ := u_2
  have e_2 := hw.1
  have hr8_2 := hw.2
  have hP : va_P D vwCl [(a0, .inr (8, [.ref x0_ready, .ref a6, .ref a4, .ref x0_coder, .ref a7, .ref x0_writer, .ref a2, .ref a3, .ref a1])), (a6, .inr (4, [.ref b6, .int (nI l6.length), .int o6])), (b6, .inl (kI, n6, .inl f6)), (a7, .inr (3, [.ref a8, .int v7_firstHalf])), (a8, .inr (0, [.int v8_value, .int v8_held])), (a2, .inr (6, [.int v2_charset, .int v2_based, .int v2_from, .int v2_to, .int v2_next])), (a3, .inr (4, [.ref b3, .int (nI l3.length), .int o3])), (b3, .inl (kI, n3, .inl f3)), (a1, .inr (4, [.ref b1, .int (nI l8_2.length), .int o8_2])), (b1, .inl (kI, n1, .inl f8_2)), (a4, .inr (5, [.ref a5, .ref x4_line])), (a5, .inr (0, [.int v4_value_2, .int v4_held_2]))] H := hP
  have hD : va_D A [(a0, .inr (8, [.ref x0_ready, .ref a6, .ref a4, .ref x0_coder, .ref a7, .ref x0_writer, .ref a2, .ref a3, .ref a1])), (a6, .inr (4, [.ref b6, .int (nI l6.length), .int o6])), (b6, .inl (kI, n6, .inl f6)), (a7, .inr (3, [.ref a8, .int v7_firstHalf])), (a8, .inr (0, [.int v8_value, .int v8_held])), (a2, .inr (6, [.int v2_charset, .int v2_based, .int v2_from, .int v2_to, .int v2_next])), (a3, .inr (4, [.ref b3, .int (nI l3.length), .int o3])), (b3, .inl (kI, n3, .inl f3)), (a1, .inr (4, [.ref b1, .int (nI l8_2.length), .int o8_2])), (b1, .inl (kI, n1, .inl f8_2)), (a4, .inr (5, [.ref a5, .ref x4_line])), (a5, .inr (0, [.int v4_value_2, .int v4_held_2]))] := hD
  rw [e_2] at hF; dsimp only at hF
  refine lv_aload_n hx hb d_MC_readWord_26 rfl (lv_at hl 0 rfl) ?_
  refine va_get (D := D) (ci := 8) (v := .ref a7) (C := "MailCharacters") (T := F_MC) (N := 9) hx hb hts i_MC hown hK hP 0 rfl rfl 4 (by decide) (hts _ k_240) (fun _ h9 => h9) rfl d_MC_readWord_27 ?_
  refine lv_aload_n hx hb d_MC_readWord_30 rfl (lv_at hl 0 rfl) ?_
  refine va_get (D := D) (ci := 8) (v := .ref a1) (C := "MailCharacters") (T := F_MC) (N := 9) hx hb hts i_MC hown hK hP 0 rfl rfl 8 (by decide) (hts _ k_244) (fun _ h9 => h9) rfl d_MC_readWord_31 ?_
  refine lv_iconst (v := 0) hx hb d_MC_readWord_34 (by decide) ?_
  refine lv_aload_n hx hb d_MC_readWord_35 rfl (lv_at hl 0 rfl) ?_
  refine va_get (D := D) (ci := 8) (v := .ref a1) (C := "MailCharacters") (T := F_MC) (N := 9) hx hb hts i_MC hown hK hP 0 rfl rfl 8 (by decide) (hts _ k_244) (fun _ h9 => h9) rfl d_MC_readWord_36 ?_
  refine g_Vi (As := []) (rest := [.int 0, .ref a1, .ref a7]) (wr := [(a0, .inr (8, [.ref x0_ready, .ref a6, .ref a4, .ref x0_coder, .ref a7, .ref x0_writer, .ref a2, .ref a3, .ref a1])), (a6, .inr (4, [.ref b6, .int (nI l6.length), .int o6])), (b6, .inl (kI, n6, .inl f6)), (a7, .inr (3, [.ref a8, .int v7_firstHalf])), (a8, .inr (0, [.int v8_value, .int v8_held])), (a2, .inr (6, [.int v2_charset, .int v2_based, .int v2_from, .int v2_to, .int v2_next])), (a3, .inr (4, [.ref b3, .int (nI l3.length), .int o3])), (b3, .inl (kI, n3, .inl f3)), (a4, .inr (5, [.ref a5, .ref x4_line])), (a5, .inr (0, [.int v4_value_2, .int v4_held_2]))]) ⟨hx, hb, hml, hown, hts⟩ (c_Row_size l D Z kI a1 b1 n1 H.size f8_2 l8_2 o8_2 hr8_2) (cw_Row_size hts k_281 ⟨Nat.le_of_ble_eq_true rfl, Nat.le_of_ble_eq_true rfl⟩) hK hZ hP hD hS hA [8, 9] [0, 1, 2, 3, 4, 5, 6, 7, 10, 11] (g_recv hK hP (ci := 4) (q0 := 8) rfl rfl) rfl rfl (by decide) (by decide) (by decide) rfl hl.1 rfl (Nat.le_of_ble_eq_true rfl) d_MC_readWord_39 ⟨Nat.zero_le _, Nat.zero_le _⟩ (fun r_3 u_3 H locs hw hP hD hS => ?_)
  have e_3 := hw
  subst e_3
  have hP : va_P D vwCl [(a0, .inr (8, [.ref x0_ready, .ref a6, .ref a4, .ref x0_coder, .ref a7, .ref x0_writer, .ref a2, .ref a3, .ref a1])), (a6, .inr (4, [.ref b6, .int (nI l6.length), .int o6])), (b6, .inl (kI, n6, .inl f6)), (a7, .inr (3, [.ref a8, .int v7_firstHalf])), (a8, .inr (0, [.int v8_value, .int v8_held])), (a2, .inr (6, [.int v2_charset, .int v2_based, .int v2_from, .int v2_to, .int v2_next])), (a3, .inr (4, [.ref b3, .int (nI l3.length), .int o3])), (b3, .inl (kI, n3, .inl f3)), (a4, .inr (5, [.ref a5, .ref x4_line])), (a5, .inr (0, [.int v4_value_2, .int v4_held_2])), (a1, .inr (4, [.ref b1, .int (nI l8_2.length), .int o8_2])), (b1, .inl (kI, n1, .inl f8_2))] H := hP
  have hD : va_D A [(a0, .inr (8, [.ref x0_ready, .ref a6, .ref a4, .ref x0_coder, .ref a7, .ref x0_writer, .ref a2, .ref a3, .ref a1])), (a6, .inr (4, [.ref b6, .int (nI l6.length), .int o6])), (b6, .inl (kI, n6, .inl f6)), (a7, .inr (3, [.ref a8, .int v7_firstHalf])), (a8, .inr (0, [.int v8_value, .int v8_held])), (a2, .inr (6, [.int v2_charset, .int v2_based, .int v2_from, .int v2_to, .int v2_next])), (a3, .inr (4, [.ref b3, .int (nI l3.length), .int o3])), (b3, .inl (kI, n3, .inl f3)), (a4, .inr (5, [.ref a5, .ref x4_line])), (a5, .inr (0, [.int v4_value_2, .int v4_held_2])), (a1, .inr (4, [.ref b1, .int (nI l8_2.length), .int o8_2])), (b1, .inl (kI, n1, .inl f8_2))] := hD
  refine lv_aload_n hx hb d_MC_readWord_42 rfl (lv_at hl 0 rfl) ?_
  refine va_get (D := D) (ci := 8) (v := .ref a2) (C := "MailCharacters") (T := F_MC) (N := 9) hx hb hts i_MC hown hK hP 0 rfl rfl 6 (by decide) (hts _ k_242) (fun _ h9 => h9) rfl d_MC_readWord_43 ?_
  refine va_getN (D := D) (ci := 6) (v := .int v2_charset) (C := "MailCharacters$Word") (T := F_Word) (N := 5) hx hb hts i_Word hown hK hP 5 rfl rfl 0 (by decide) (gZ_nf hZ 2 (q := ("MailCharacters", 154, "MailCharacters$Word", "charset", "I")) rfl) (fun _ h9 => h9) rfl d_MC_readWord_46 ?_
  refine lv_aload_n hx hb d_MC_readWord_49 rfl (lv_at hl 0 rfl) ?_
  refine va_get (D := D) (ci := 8) (v := .ref a6) (C := "MailCharacters") (T := F_MC) (N := 9) hx hb hts i_MC hown hK hP 0 rfl rfl 1 (by decide) (hts _ k_237) (fun _ h9 => h9) rfl d_MC_readWord_50 ?_
  refine g_Vv (As := [.ref a1, .int 0, .int (m_Row_size l8_2), .int v2_charset, .ref a6]) (rest := []) (wr := [(a0, .inr (8, [.ref x0_ready, .ref a6, .ref a4, .ref x0_coder, .ref a7, .ref x0_writer, .ref a2, .ref a3, .ref a1])), (a2, .inr (6, [.int v2_charset, .int v2_based, .int v2_from, .int v2_to, .int v2_next])), (a3, .inr (4, [.ref b3, .int (nI l3.length), .int o3])), (b3, .inl (kI, n3, .inl f3)), (a4, .inr (5, [.ref a5, .ref x4_line])), (a5, .inr (0, [.int v4_value_2, .int v4_held_2]))]) ⟨hx, hb, hml, hown, hts⟩ (c_Reader_readInto l D Z kI a6 b6 n6 a1 b1 n1 a7 a8 H.size f6 l6 o6 f8_2 l8_2 o8_2 v7_firstHalf v8_value v8_held 0 (m_Row_size l8_2) v2_charset hr6 hr8_2 (g_szle hr8_2)) (cw_Reader_readInto hts k_401 ⟨Nat.le_of_ble_eq_true rfl, Nat.le_of_ble_eq_true rfl⟩) hK hZ hP hD hS hA [1, 2, 10, 11, 3, 4] [0, 5, 6, 7, 8, 9] (g_recv hK hP (ci := 3) (q0 := 3) rfl rfl) rfl rfl (by decide) (by decide) (by decide) rfl hl.1 rfl (Nat.le_of_ble_eq_true rfl) d_MC_readWord_53 ⟨Nat.zero_le _, Nat.zero_le _⟩ (fun u_4 H locs hw hP hD hS => ?_)
  obtain ⟨f1_4, l1_4, o1_4, v2_firstHalf_4, v3_value_4, v3_held_4⟩ := u_4
  have e_4 := hw.1
  have hr1_4 := hw.2
  have hP : va_P D vwCl [(a0, .inr (8, [.ref x0_ready, .ref a6, .ref a4, .ref x0_coder, .ref a7, .ref x0_writer, .ref a2, .ref a3, .ref a1])), (a2, .inr (6, [.int v2_charset, .int v2_based, .int v2_from, .int v2_to, .int v2_next])), (a3, .inr (4, [.ref b3, .int (nI l3.length), .int o3])), (b3, .inl (kI, n3, .inl f3)), (a4, .inr (5, [.ref a5, .ref x4_line])), (a5, .inr (0, [.int v4_value_2, .int v4_held_2])), (a6, .inr (4, [.ref b6, .int (nI l1_4.length), .int o1_4])), (b6, .inl (kI, n6, .inl f1_4)), (a1, .inr (4, [.ref b1, .int (nI l8_2.length), .int o8_2])), (b1, .inl (kI, n1, .inl f8_2)), (a7, .inr (3, [.ref a8, .int v2_firstHalf_4])), (a8, .inr (0, [.int v3_value_4, .int v3_held_4]))] H := hP
  have hD : va_D A [(a0, .inr (8, [.ref x0_ready, .ref a6, .ref a4, .ref x0_coder, .ref a7, .ref x0_writer, .ref a2, .ref a3, .ref a1])), (a2, .inr (6, [.int v2_charset, .int v2_based, .int v2_from, .int v2_to, .int v2_next])), (a3, .inr (4, [.ref b3, .int (nI l3.length), .int o3])), (b3, .inl (kI, n3, .inl f3)), (a4, .inr (5, [.ref a5, .ref x4_line])), (a5, .inr (0, [.int v4_value_2, .int v4_held_2])), (a6, .inr (4, [.ref b6, .int (nI l1_4.length), .int o1_4])), (b6, .inl (kI, n6, .inl f1_4)), (a1, .inr (4, [.ref b1, .int (nI l8_2.length), .int o8_2])), (b1, .inl (kI, n1, .inl f8_2)), (a7, .inr (3, [.ref a8, .int v2_firstHalf_4])), (a8, .inr (0, [.int v3_value_4, .int v3_held_4]))] := hD
  rw [e_4] at hF; dsimp only at hF
  exact hret (f8_2, l8_2, o8_2, v4_value_2, v4_held_2, f1_4, l1_4, o1_4, v2_firstHalf_4, v3_value_4, v3_held_4) _ _ _ _ d_MC_readWord_56 (⟨hRES.symm.trans hF, hr8_2, hr1_4⟩) (hP.sub [0, 8, 9, 1, 2, 3, 4, 5, 6, 7, 10, 11] rfl) (hD.sub [0, 8, 9, 1, 2, 3, 4, 5, 6, 7, 10, 11] (by decide) rfl) hS
theorem cw_MC_readWord {R : Room} {s : State} {args : Array Value} {own : String} {idx : Nat} (hts : ∀ w ∈ gW, w.before args s = true) (hl : Cond.methodLink own idx y_MC_readWord ∈ gW) (hR : rm_MC_readWord.frames + 1 ≤ R.frames ∧ 8 + (1 + 11) + rm_MC_readWord.locals ≤ R.locals) : CallW R s args own "MailCharacters" idx y_MC_readWord b_MC_readWord 1 none w_MC_readWord rm_MC_readWord 0 0 0 := cwV 0 hts (gW_V hl k_492 k_8 k_67 k_493) rfl rfl rfl (by decide +kernel) hR
def m_Writer_writeInto_l35 (n1 : Nat) : Nat → Int32 → Int32 → List Int32 → List Int32 → Int32 → Int32 → Int32 → List Int32 × Int32 × Int32 × Int32
  | 0, _, _, _, l1, o1, v3_value, v3_held => (l1, o1, v3_value, v3_held)
  | nf35 + 1, i2, i4, l0, l1, o1, v3_value, v3_held =>
    if (m_Row_size l0) ≤ i4 then
      (l1, o1, v3_value, v3_held)
    else
      if (m_Writer_widthOf (m_Row_get l0 i4) i2) ≤ (m_Row_room n1 l1) then
        match (m_Writer_writeCharacter n1 l1 o1 (m_Row_get l0 i4) i2) with
        | (l3_8, o3_8) =>
          m_Writer_writeInto_l35 n1 nf35 i2 (i4 + 1) l0 l3_8 o3_8 v3_value v3_held
      else
        (l1, o1, v3_value, v3_held)
def m_Writer_writeInto (n1 : Nat) (l0 : List Int32) (l1 : List Int32) (o1 : Int32) (v3_value : Int32) (v3_held : Int32) (p2 : Int32) : List Int32 × Int32 × Int32 × Int32 :=
  if p2 = 9 then
    match (m_Writer_writeUtf7 n1 l0 l1 o1 v3_value v3_held) with
    | (l1_13, o1_13, v3_value_13, v3_held_13) =>
      (l1_13, o1_13, v3_value_13, v3_held_13)
  else
    if p2 = 5 then
      match (m_Row_put n1 l1 o1 254) with
      | (l1_11, o1_11) =>
        match (m_Row_put n1 l1_11 o1_11 255) with
        | (l3_12, o3_12) =>
          m_Writer_writeInto_l35 n1 (((m_Row_size l0).toInt - (0 : Int32).toInt).toNat + 1) p2 0 l0 l3_12 o3_12 v3_value v3_held
    else
      m_Writer_writeInto_l35 n1 (((m_Row_size l0).toInt - (0 : Int32).toInt).toNat + 1) p2 0 l0 l1 o1 v3_value v3_held
def rm_Writer_writeInto : Room := { frames := 4, cells := 0, slots := 0, locals := 96 }
set_option maxHeartbeats 4000000 in
set_option maxRecDepth 100000 in
theorem c_Writer_writeInto (l : Launch) (D : va_G) (Z : gZT) (kI : ClassId) (a0 : Nat) (b0 : Nat) (n0 : Nat) (a1 : Nat) (b1 : Nat) (n1 : Nat) (a2 : Nat) (a3 : Nat) (sz : Nat) (f0 : Nat → Int32) (l0 : List Int32) (o0 : Int32) (f1 : Nat → Int32) (l1 : List Int32) (o1 : Int32) (v3_value : Int32) (v3_held : Int32) (p2 : Int32) (hr0 : g_rw n0 f0 l0) (hr1 : g_rw n1 f1 l1) : gMv l y_Writer_writeInto w_Writer_writeInto rm_Writer_writeInto D Z kI [.ref a2, .ref a0, .int p2, .ref a1] sz [(a0, .inr (4, [.ref b0, .int (nI l0.length), .int o0])), (b0, .inl (kI, n0, .inl f0)), (a1, .inr (4, [.ref b1, .int (nI l1.length), .int o1])), (b1, .inl (kI, n1, .inl f1)), (a2, .inr (7, [.ref a3])), (a3, .inr (0, [.int v3_value, .int v3_held]))] (fun (u : (Nat → Int32) × List Int32 × Int32 × Int32 × Int32) => m_Writer_writeInto n1 l0 l1 o1 v3_value v3_held p2 = (u.2.1, u.2.2.1, u.2.2.2.1, u.2.2.2.2) ∧ g_rw n1 u.1 u.2.1) (fun (u : (Nat → Int32) × List Int32 × Int32 × Int32 × Int32) => ([(a0, .inr (4, [.ref b0, .int (nI l0.length), .int o0])), (b0, .inl (kI, n0, .inl f0)), (a1, .inr (4, [.ref b1, .int (nI u.2.1.length), .int u.2.2.1])), (b1, .inl (kI, n1, .inl u.1)), (a2, .inr (7, [.ref a3])), (a3, .inr (0, [.int u.2.2.2.1, .int u.2.2.2.2]))] : va_W)) := by
  refine g_ofv (cc := b_Writer_writeInto) (maxL := 6) (by decide) rfl (Nat.le_of_ble_eq_true rfl) ?_
  intro p e s m below meth c A Q H ls hx hb hml hown hts hA hK hZ hP hD hS hl hret
  have hown : s.vm.findClass "MailCharacters$Writer" = some m.cls := hown
  have hl : lv_has ls 6 [(0, .ref a2), (1, .ref a0), (2, .int p2), (3, .ref a1)] := hl
  obtain ⟨RES, hRES⟩ : ∃ z, z = m_Writer_writeInto n1 l0 l1 o1 v3_value v3_held p2 := ⟨_, rfl⟩
  have lp35 : ∀ (nf35 : Nat) (i2 : Int32) (i4 : Int32) (f1 : Nat → Int32) (l1 : List Int32) (o1 : Int32) (v3_value : Int32) (v3_held : Int32) (hr1 : g_rw n1 f1 l1) (H : Heap) (locs : List Loc) (ls : Array Slot), ((m_Row_size l0).toInt - i4.toInt).toNat < nf35 → RES = m_Writer_writeInto_l35 n1 nf35 i2 i4 l0 l1 o1 v3_value v3_held → va_P D vwCl [(a0, .inr (4, [.ref b0, .int (nI l0.length), .int o0])), (b0, .inl (kI, n0, .inl f0)), (a1, .inr (4, [.ref b1, .int (nI l1.length), .int o1])), (b1, .inl (kI, n1, .inl f1)), (a2, .inr (7, [.ref a3])), (a3, .inr (0, [.int v3_value, .int v3_held]))] H → va_D A [(a0, .inr (4, [.ref b0, .int (nI l0.length), .int o0])), (b0, .inl (kI, n0, .inl f0)), (a1, .inr (4, [.ref b1, .int (nI l1.length), .int o1])), (b1, .inl (kI, n1, .inl f1)), (a2, .inr (7, [.ref a3])), (a3, .inr (0, [.int v3_value, .int v3_held]))] → va_S A s.heap H locs → lv_has ls 6 [(1, .ref a0), (2, .int i2), (3, .ref a1), (4, .int i4)] → W p l e rm_Writer_writeInto s m ([.ref a2, .ref a0, .int p2, .ref a1] : List Value).toArray below meth c H locs 0 0 Q (F0 m 35 ls []) := by
    intro nf35
    induction nf35 with
    | zero => intro i2 i4 f1 l1 o1 v3_value v3_held hr1 H locs ls hn35; exact absurd hn35 (Nat.not_lt_zero _)
    | succ nf35 ih35 =>
      intro i2 i4 f1 l1 o1 v3_value v3_held hr1 H locs ls hn35 hF hP hD hS hl
      rw [m_Writer_writeInto_l35] at hF
      refine lv_iload hx hb d_Writer_writeInto_35 (lv_at hl 3 rfl) ?_
      refine lv_aload_n hx hb d_Writer_writeInto_37 rfl (lv_at hl 0 rfl) ?_
      refine g_Vi (As := []) (rest := [.int i4]) (wr := [(a1, .inr (4, [.ref b1, .int (nI l1.length), .int o1])), (b1, .inl (kI, n1, .inl f1)), (a2, .inr (7, [.ref a3])), (a3, .inr (0, [.int v3_value, .int v3_held]))]) ⟨hx, hb, hml, hown, hts⟩ (c_Row_size l D Z kI a0 b0 n0 H.size f0 l0 o0 hr0) (cw_Row_size hts k_687 ⟨Nat.le_of_ble_eq_true rfl, Nat.le_of_ble_eq_true rfl⟩) hK hZ hP hD hS hA [0, 1] [2, 3, 4, 5] (g_recv hK hP (ci := 4) (q0 := 0) rfl rfl) rfl rfl (by decide) (by decide) (by decide) rfl hl.1 rfl (Nat.le_of_ble_eq_true rfl) d_Writer_writeInto_38 ⟨Nat.zero_le _, Nat.zero_le _⟩ (fun r_2 u_2 H locs hw hP hD hS => ?_)
      have e_2 := hw
      subst e_2
      have hP : va_P D vwCl [(a1, .inr (4, [.ref b1, .int (nI l1.length), .int o1])), (b1, .inl (kI, n1, .inl f1)), (a2, .inr (7, [.ref a3])), (a3, .inr (0, [.int v3_value, .int v3_held])), (a0, .inr (4, [.ref b0, .int (nI l0.length), .int o0])), (b0, .inl (kI, n0, .inl f0))] H := hP
      have hD : va_D A [(a1, .inr (4, [.ref b1, .int (nI l1.length), .int o1])), (b1, .inl (kI, n1, .inl f1)), (a2, .inr (7, [.ref a3])), (a3, .inr (0, [.int v3_value, .int v3_held])), (a0, .inr (4, [.ref b0, .int (nI l0.length), .int o0])), (b0, .inl (kI, n0, .inl f0))] := hD
      refine lv_icmp_ge (tgt := 79) hx hb d_Writer_writeInto_41 (by decide) (fun c_3 => ?_) (fun c_3 => ?_)
      · rw [if_pos c_3] at hF
        exact hret (f1, l1, o1, v3_value, v3_held) _ _ _ _ d_Writer_writeInto_79 (⟨hRES.symm.trans hF, hr1⟩) (hP.sub [4, 5, 0, 1, 2, 3] rfl) (hD.sub [4, 5, 0, 1, 2, 3] (by decide) rfl) hS
      · rw [if_neg c_3] at hF
        refine lv_aload_n hx hb d_Writer_writeInto_44 rfl (lv_at hl 0 rfl) ?_
        refine lv_iload hx hb d_Writer_writeInto_45 (lv_at hl 3 rfl) ?_
        refine g_Vi (As := [.int i4]) (rest := []) (wr := [(a1, .inr (4, [.ref b1, .int (nI l1.length), .int o1])), (b1, .inl (kI, n1, .inl f1)), (a2, .inr (7, [.ref a3])), (a3, .inr (0, [.int v3_value, .int v3_held]))]) ⟨hx, hb, hml, hown, hts⟩ (c_Row_get l D Z kI a0 b0 n0 H.size f0 l0 o0 i4 hr0) (cw_Row_get hts k_688 ⟨Nat.le_of_ble_eq_true rfl, Nat.le_of_ble_eq_true rfl⟩) hK hZ hP hD hS hA [4, 5] [0, 1, 2, 3] (g_recv hK hP (ci := 4) (q0 := 4) rfl rfl) rfl rfl (by decide) (by decide) (by decide) rfl hl.1 rfl (Nat.le_of_ble_eq_true rfl) d_Writer_writeInto_47 ⟨Nat.zero_le _, Nat.zero_le _⟩ (fun r_4 u_4 H locs hw hP hD hS => ?_)
        have e_4 := hw
        subst e_4
        have hP : va_P D vwCl [(a1, .inr (4, [.ref b1, .int (nI l1.length), .int o1])), (b1, .inl (kI, n1, .inl f1)), (a2, .inr (7, [.ref a3])), (a3, .inr (0, [.int v3_value, .int v3_held])), (a0, .inr (4, [.ref b0, .int (nI l0.length), .int o0])), (b0, .inl (kI, n0, .inl f0))] H := hP
        have hD : va_D A [(a1, .inr (4, [.ref b1, .int (nI l1.length), .int o1])), (b1, .inl (kI, n1, .inl f1)), (a2, .inr (7, [.ref a3])), (a3, .inr (0, [.int v3_value, .int v3_held])), (a0, .inr (4, [.ref b0, .int (nI l0.length), .int o0])), (b0, .inl (kI, n0, .inl f0))] := hD
        refine lv_istore (lv' := [(5, .int (m_Row_get l0 i4)), (1, .ref a0), (2, .int i2), (3, .ref a1), (4, .int i4)]) hx hb d_Writer_writeInto_50 hl (by decide) rfl (fun ls hl => ?_)
        refine lv_aload_n hx hb d_Writer_writeInto_52 rfl (lv_at hl 3 rfl) ?_
        refine g_Vi (As := []) (rest := []) (wr := [(a2, .inr (7, [.ref a3])), (a3, .inr (0, [.int v3_value, .int v3_held])), (a0, .inr (4, [.ref b0, .int (nI l0.length), .int o0])), (b0, .inl (kI, n0, .inl f0))]) ⟨hx, hb, hml, hown, hts⟩ (c_Row_room l D Z kI a1 b1 n1 H.size f1 l1 o1 hr1) (cw_Row_room hts k_695 ⟨Nat.le_of_ble_eq_true rfl, Nat.le_of_ble_eq_true rfl⟩) hK hZ hP hD hS hA [0, 1] [2, 3, 4, 5] (g_recv hK hP (ci := 4) (q0 := 0) rfl rfl) rfl rfl (by decide) (by decide) (by decide) rfl hl.1 rfl (Nat.le_of_ble_eq_true rfl) d_Writer_writeInto_53 ⟨Nat.zero_le _, Nat.zero_le _⟩ (fun r_5 u_5 H locs hw hP hD hS => ?_)
        have e_5 := hw
        subst e_5
        have hP : va_P D vwCl [(a2, .inr (7, [.ref a3])), (a3, .inr (0, [.int v3_value, .int v3_held])), (a0, .inr (4, [.ref b0, .int (nI l0.length), .int o0])), (b0, .inl (kI, n0, .inl f0)), (a1, .inr (4, [.ref b1, .int (nI l1.length), .int o1])), (b1, .inl (kI, n1, .inl f1))] H := hP
        have hD : va_D A [(a2, .inr (7, [.ref a3])), (a3, .inr (0, [.int v3_value, .int v3_held])), (a0, .inr (4, [.ref b0, .int (nI l0.length), .int o0])), (b0, .inl (kI, n0, .inl f0)), (a1, .inr (4, [.ref b1, .int (nI l1.length), .int o1])), (b1, .inl (kI, n1, .inl f1))] := hD
        refine lv_iload hx hb d_Writer_writeInto_56 (lv_at hl 0 rfl) ?_
        refine lv_iload_n hx hb d_Writer_writeInto_58 rfl (lv_at hl 2 rfl) ?_
        refine g_Si (As := [.int (m_Row_get l0 i4), .int i2]) (rest := [.int (m_Row_room n1 l1)]) (wr := [(a2, .inr (7, [.ref a3])), (a3, .inr (0, [.int v3_value, .int v3_held])), (a0, .inr (4, [.ref b0, .int (nI l0.length), .int o0])), (b0, .inl (kI, n0, .inl f0)), (a1, .inr (4, [.ref b1, .int (nI l1.length), .int o1])), (b1, .inl (kI, n1, .inl f1))]) ⟨hx, hb, hml, hown, hts⟩ (c_Writer_widthOf l D Z kI H.size (m_Row_get l0 i4) i2) (cw_Writer_widthOf hts k_735 ⟨Nat.le_of_ble_eq_true rfl, Nat.le_of_ble_eq_true rfl⟩) hK hZ hP hD hS hA [] [0, 1, 2, 3, 4, 5] rfl rfl (by decide) (by decide) (by decide) rfl hl.1 rfl (Nat.le_of_ble_eq_true rfl) d_Writer_writeInto_59 ⟨Nat.zero_le _, Nat.zero_le _⟩ (fun r_6 u_6 H locs hw hP hD hS => ?_)
        have e_6 := hw
        subst e_6
        have hP : va_P D vwCl [(a2, .inr (7, [.ref a3])), (a3, .inr (0, [.int v3_value, .int v3_held])), (a0, .inr (4, [.ref b0, .int (nI l0.length), .int o0])), (b0, .inl (kI, n0, .inl f0)), (a1, .inr (4, [.ref b1, .int (nI l1.length), .int o1])), (b1, .inl (kI, n1, .inl f1))] H := hP
        have hD : va_D A [(a2, .inr (7, [.ref a3])), (a3, .inr (0, [.int v3_value, .int v3_held])), (a0, .inr (4, [.ref b0, .int (nI l0.length), .int o0])), (b0, .inl (kI, n0, .inl f0)), (a1, .inr (4, [.ref b1, .int (nI l1.length), .int o1])), (b1, .inl (kI, n1, .inl f1))] := hD
        refine lv_icmp_ge (tgt := 66) hx hb d_Writer_writeInto_62 (by decide) (fun c_7 => ?_) (fun c_7 => ?_)
        · rw [if_pos c_7] at hF
          refine lv_iload hx hb d_Writer_writeInto_66 (lv_at hl 0 rfl) ?_
          refine lv_iload_n hx hb d_Writer_writeInto_68 rfl (lv_at hl 2 rfl) ?_
          refine lv_aload_n hx hb d_Writer_writeInto_69 rfl (lv_at hl 3 rfl) ?_
          refine g_Sv (As := [.int (m_Row_get l0 i4), .int i2, .ref a1]) (rest := []) (wr := [(a2, .inr (7, [.ref a3])), (a3, .inr (0, [.int v3_value, .int v3_held])), (a0, .inr (4, [.ref b0, .int (nI l0.length), .int o0])), (b0, .inl (kI, n0, .inl f0))]) ⟨hx, hb, hml, hown, hts⟩ (c_Writer_writeCharacter l D Z kI a1 b1 n1 H.size f1 l1 o1 (m_Row_get l0 i4) i2 hr1) (cw_Writer_writeCharacter hts k_741 ⟨Nat.le_of_ble_eq_true rfl, Nat.le_of_ble_eq_true rfl⟩) hK hZ hP hD hS hA [4, 5] [0, 1, 2, 3] rfl rfl (by decide) (by decide) (by decide) rfl hl.1 rfl (Nat.le_of_ble_eq_true rfl) d_Writer_writeInto_70 ⟨Nat.zero_le _, Nat.zero_le _⟩ (fun u_8 H locs hw hP hD hS => ?_)
          obtain ⟨f3_8, l3_8, o3_8⟩ := u_8
          have e_8 := hw.1
          have hr3_8 := hw.2
          have hP : va_P D vwCl [(a2, .inr (7, [.ref a3])), (a3, .inr (0, [.int v3_value, .int v3_held])), (a0, .inr (4, [.ref b0, .int (nI l0.length), .int o0])), (b0, .inl (kI, n0, .inl f0)), (a1, .inr (4, [.ref b1, .int (nI l3_8.length), .int o3_8])), (b1, .inl (kI, n1, .inl f3_8))] H := hP
          have hD : va_D A [(a2, .inr (7, [.ref a3])), (a3, .inr (0, [.int v3_value, .int v3_held])), (a0, .inr (4, [.ref b0, .int (nI l0.length), .int o0])), (b0, .inl (kI, n0, .inl f0)), (a1, .inr (4, [.ref b1, .int (nI l3_8.length), .int o3_8])), (b1, .inl (kI, n1, .inl f3_8))] := hD
          rw [e_8] at hF; dsimp only at hF
          refine lv_iinc (v := (i4 + 1)) (lv' := [(4, .int (i4 + 1)), (5, .int (m_Row_get l0 i4)), (1, .ref a0), (2, .int i2), (3, .ref a1)]) hx hb d_Writer_writeInto_73 hl (k := 4) rfl rfl (by decide) rfl (fun ls hl => ?_)
          refine lv_goto (tgt := 35) hx hb d_Writer_writeInto_76 (by decide) ?_
          exact ih35 i2 (i4 + 1) f3_8 l3_8 o3_8 v3_value v3_held hr3_8 _ _ _  (Nat.lt_of_lt_of_le (g_dec1 c_3) (Nat.le_of_lt_succ hn35)) hF (hP.sub [2, 3, 4, 5, 0, 1] rfl) (hD.sub [2, 3, 4, 5, 0, 1] (by decide) rfl) hS (lv_sub hl [2, 3, 4, 0] rfl)
        · rw [if_neg c_7] at hF
          exact hret (f1, l1, o1, v3_value, v3_held) _ _ _ _ d_Writer_writeInto_65 (⟨hRES.symm.trans hF, hr1⟩) (hP.sub [2, 3, 4, 5, 0, 1] rfl) (hD.sub [2, 3, 4, 5, 0, 1] (by decide) rfl) hS
  have hF := hRES
  rw [m_Writer_writeInto] at hF
  refine lv_iload_n hx hb d_Writer_writeInto_0 rfl (lv_at hl 2 rfl) ?_
  refine lv_bipush (v := 9) hx hb d_Writer_writeInto_1 (by decide) ?_
  refine lv_icmp_ne (tgt := 13) hx hb d_Writer_writeInto_3 (by decide) (fun c_9 => ?_) (fun c_9 => ?_)
  · rw [if_neg c_9] at hF
    refine lv_iload_n hx hb d_Writer_writeInto_13 rfl (lv_at hl 2 rfl) ?_
    refine lv_iconst (v := 5) hx hb d_Writer_writeInto_14 (by decide) ?_
    refine lv_icmp_ne (tgt := 32) hx hb d_Writer_writeInto_15 (by decide) (fun c_10 => ?_) (fun c_10 => ?_)
    · rw [if_neg c_10] at hF
      refine lv_iconst (v := 0) hx hb d_Writer_writeInto_32 (by decide) ?_
      refine lv_istore (lv' := [(4, .int 0), (0, .ref a2), (1, .ref a0), (2, .int p2), (3, .ref a1)]) hx hb d_Writer_writeInto_33 hl (by decide) rfl (fun ls hl => ?_)
      exact lp35 (((m_Row_size l0).toInt - (0 : Int32).toInt).toNat + 1) p2 0 f1 l1 o1 v3_value v3_held hr1 _ _ _  (Nat.lt_succ_self _) hF hP hD hS (lv_sub hl [2, 3, 4, 0] rfl)
    · rw [if_pos c_10] at hF
      refine lv_aload_n hx hb d_Writer_writeInto_18 rfl (lv_at hl 3 rfl) ?_
      refine lv_sipush (v := 254) hx hb d_Writer_writeInto_19 (by decide) ?_
      refine g_Vv (As := [.int 254]) (rest := []) (wr := [(a0, .inr (4, [.ref b0, .int (nI l0.length), .int o0])), (b0, .inl (kI, n0, .inl f0)), (a2, .inr (7, [.ref a3])), (a3, .inr (0, [.int v3_value, .int v3_held]))]) ⟨hx, hb, hml, hown, hts⟩ (c_Row_put l D Z kI a1 b1 n1 H.size f1 l1 o1 254 hr1) (cw_Row_put hts k_710 ⟨Nat.le_of_ble_eq_true rfl, Nat.le_of_ble_eq_true rfl⟩) hK hZ hP hD hS hA [2, 3] [0, 1, 4, 5] (g_recv hK hP (ci := 4) (q0 := 2) rfl rfl) rfl rfl (by decide) (by decide) (by decide) rfl hl.1 rfl (Nat.le_of_ble_eq_true rfl) d_Writer_writeInto_22 ⟨Nat.zero_le _, Nat.zero_le _⟩ (fun u_11 H locs hw hP hD hS => ?_)
      obtain ⟨f1_11, l1_11, o1_11⟩ := u_11
      have e_11 := hw.1
      have hr1_11 := hw.2
      have hP : va_P D vwCl [(a0, .inr (4, [.ref b0, .int (nI l0.length), .int o0])), (b0, .inl (kI, n0, .inl f0)), (a2, .inr (7, [.ref a3])), (a3, .inr (0, [.int v3_value, .int v3_held])), (a1, .inr (4, [.ref b1, .int (nI l1_11.length), .int o1_11])), (b1, .inl (kI, n1, .inl f1_11))] H := hP
      have hD : va_D A [(a0, .inr (4, [.ref b0, .int (nI l0.length), .int o0])), (b0, .inl (kI, n0, .inl f0)), (a2, .inr (7, [.ref a3])), (a3, .inr (0, [.int v3_value, .int v3_held])), (a1, .inr (4, [.ref b1, .int (nI l1_11.length), .int o1_11])), (b1, .inl (kI, n1, .inl f1_11))] := hD
      rw [e_11] at hF; dsimp only at hF
      refine lv_aload_n hx hb d_Writer_writeInto_25 rfl (lv_at hl 3 rfl) ?_
      refine lv_sipush (v := 255) hx hb d_Writer_writeInto_26 (by decide) ?_
      refine g_Vv (As := [.int 255]) (rest := []) (wr := [(a0, .inr (4, [.ref b0, .int (nI l0.length), .int o0])), (b0, .inl (kI, n0, .inl f0)), (a2, .inr (7, [.ref a3])), (a3, .inr (0, [.int v3_value, .int v3_held]))]) ⟨hx, hb, hml, hown, hts⟩ (c_Row_put l D Z kI a1 b1 n1 H.size f1_11 l1_11 o1_11 255 hr1_11) (cw_Row_put hts k_710 ⟨Nat.le_of_ble_eq_true rfl, Nat.le_of_ble_eq_true rfl⟩) hK hZ hP hD hS hA [4, 5] [0, 1, 2, 3] (g_recv hK hP (ci := 4) (q0 := 4) rfl rfl) rfl rfl (by decide) (by decide) (by decide) rfl hl.1 rfl (Nat.le_of_ble_eq_true rfl) d_Writer_writeInto_29 ⟨Nat.zero_le _, Nat.zero_le _⟩ (fun u_12 H locs hw hP hD hS => ?_)
      obtain ⟨f3_12, l3_12, o3_12⟩ := u_12
      have e_12 := hw.1
      have hr3_12 := hw.2
      have hP : va_P D vwCl [(a0, .inr (4, [.ref b0, .int (nI l0.length), .int o0])), (b0, .inl (kI, n0, .inl f0)), (a2, .inr (7, [.ref a3])), (a3, .inr (0, [.int v3_value, .int v3_held])), (a1, .inr (4, [.ref b1, .int (nI l3_12.length), .int o3_12])), (b1, .inl (kI, n1, .inl f3_12))] H := hP
      have hD : va_D A [(a0, .inr (4, [.ref b0, .int (nI l0.length), .int o0])), (b0, .inl (kI, n0, .inl f0)), (a2, .inr (7, [.ref a3])), (a3, .inr (0, [.int v3_value, .int v3_held])), (a1, .inr (4, [.ref b1, .int (nI l3_12.length), .int o3_12])), (b1, .inl (kI, n1, .inl f3_12))] := hD
      rw [e_12] at hF; dsimp only at hF
      refine lv_iconst (v := 0) hx hb d_Writer_writeInto_32 (by decide) ?_
      refine lv_istore (lv' := [(4, .int 0), (0, .ref a2), (1, .ref a0), (2, .int p2), (3, .ref a1)]) hx hb d_Writer_writeInto_33 hl (by decide) rfl (fun ls hl => ?_)
      exact lp35 (((m_Row_size l0).toInt - (0 : Int32).toInt).toNat + 1) p2 0 f3_12 l3_12 o3_12 v3_value v3_held hr3_12 _ _ _  (Nat.lt_succ_self _) hF (hP.sub [0, 1, 4, 5, 2, 3] rfl) (hD.sub [0, 1, 4, 5, 2, 3] (by decide) rfl) hS (lv_sub hl [2, 3, 4, 0] rfl)
  · rw [if_pos c_9] at hF
    refine lv_aload_n hx hb d_Writer_writeInto_6 rfl (lv_at hl 0 rfl) ?_
    refine lv_aload_n hx hb d_Writer_writeInto_7 rfl (lv_at hl 1 rfl) ?_
    refine lv_aload_n hx hb d_Writer_writeInto_8 rfl (lv_at hl 3 rfl) ?_
    refine g_Vv (As := [.ref a0, .ref a1]) (rest := []) (wr := []) ⟨hx, hb, hml, hown, hts⟩ (c_Writer_writeUtf7 l D Z kI a0 b0 n0 a1 b1 n1 a2 a3 H.size f0 l0 o0 f1 l1 o1 v3_value v3_held hr0 hr1) (cw_Writer_writeUtf7 hts k_683 ⟨Nat.le_of_ble_eq_true rfl, Nat.le_of_ble_eq_true rfl⟩) hK hZ hP hD hS hA [0, 1, 2, 3, 4, 5] [] (g_recv hK hP (ci := 7) (q0 := 4) rfl rfl) rfl rfl (by decide) (by decide) (by decide) rfl hl.1 rfl (Nat.le_of_ble_eq_true rfl) d_Writer_writeInto_9 ⟨Nat.zero_le _, Nat.zero_le _⟩ (fun u_13 H locs hw hP hD hS => ?_)
    obtain ⟨f1_13, l1_13, o1_13, v3_value_13, v3_held_13⟩ := u_13
    have e_13 := hw.1
    have hr1_13 := hw.2
    have hP : va_P D vwCl [(a0, .inr (4, [.ref b0, .int (nI l0.length), .int o0])), (b0, .inl (kI, n0, .inl f0)), (a1, .inr (4, [.ref b1, .int (nI l1_13.length), .int o1_13])), (b1, .inl (kI, n1, .inl f1_13)), (a2, .inr (7, [.ref a3])), (a3, .inr (0, [.int v3_value_13, .int v3_held_13]))] H := hP
    have hD : va_D A [(a0, .inr (4, [.ref b0, .int (nI l0.length), .int o0])), (b0, .inl (kI, n0, .inl f0)), (a1, .inr (4, [.ref b1, .int (nI l1_13.length), .int o1_13])), (b1, .inl (kI, n1, .inl f1_13)), (a2, .inr (7, [.ref a3])), (a3, .inr (0, [.int v3_value_13, .int v3_held_13]))] := hD
    rw [e_13] at hF; dsimp only at hF
    exact hret (f1_13, l1_13, o1_13, v3_value_13, v3_held_13) _ _ _ _ d_Writer_writeInto_12 (⟨hRES.symm.trans hF, hr1_13⟩) hP hD hS
theorem cw_Writer_writeInto {R : Room} {s : State} {args : Array Value} {own : String} {idx : Nat} (hts : ∀ w ∈ gW, w.before args s = true) (hl : Cond.methodLink own idx y_Writer_writeInto ∈ gW) (hR : rm_Writer_writeInto.frames + 1 ≤ R.frames ∧ 8 + (6 + 11) + rm_Writer_writeInto.locals ≤ R.locals) : CallW R s args own "MailCharacters$Writer" idx y_Writer_writeInto b_Writer_writeInto 6 none w_Writer_writeInto rm_Writer_writeInto 0 0 3 := cwV 3 hts (gW_V hl k_680 k_681 k_75 k_682) rfl rfl rfl (by decide +kernel) hR
def m_MC_words_l22 (n1 : Nat) (n6 : Nat) : Nat → Int32 → Int32 → Int32 → Int32 → List Int32 → Int32 → List Int32 → Int32 → Int32 → Int32 → Int32 → Int32 → Int32 → Int32 → Int32 → List Int32 → Int32 → Int32 → Int32 → Int32 × List Int32 × Int32 × List Int32 × Int32 × Int32 × Int32 × Int32 × Int32 × Int32 × Int32 × Int32 × Int32 × List Int32 × Int32 × Int32 × Int32
  | 0, _, _, _, _, l1, o1, l2, v3_firstHalf, v4_value, v4_held, v5_charset, v5_based, v5_from, v5_to, v5_next, l6, o6, v8_value, v8_held => (0, l1, o1, l2, 0, v3_firstHalf, v4_value, v4_held, v5_charset, v5_based, v5_from, v5_to, v5_next, l6, o6, v8_value, v8_held)
  | nf22 + 1, i1, i2, i3, i4, l1, o1, l2, v3_firstHalf, v4_value, v4_held, v5_charset, v5_based, v5_from, v5_to, v5_next, l6, o6, v8_value, v8_held =>
    if i1 ≤ i4 then
      match (m_Reader_readInto n1 l1 o1 l2 v3_firstHalf v4_value v4_held i2 i1 4) with
      | (l1_2, o1_2, v3_firstHalf_2, v4_value_2, v4_held_2) =>
        match m_Row_empty with
        | (l6_3, o6_3) =>
          ((m_Row_size l1_2), l1_2, o1_2, l6_3, o6_3, v3_firstHalf_2, v4_value_2, v4_held_2, v5_charset, v5_based, v5_from, v5_to, v5_next, l6, o6, v8_value, v8_held)
    else
      if i4 < i2 then
        m_MC_words_l22 n1 n6 nf22 i1 i2 i3 (i4 + 1) l1 o1 l2 v3_firstHalf v4_value v4_held v5_charset v5_based v5_from v5_to v5_next l6 o6 v8_value v8_held
      else
        match (m_Word_standsAt l2 v5_charset v5_based v5_from v5_to v5_next i4) with
        | (r_6, v5_charset_6, v5_based_6, v5_from_6, v5_to_6, v5_next_6) =>
          if r_6 = 0 then
            m_MC_words_l22 n1 n6 nf22 i1 i2 i3 (i4 + 1) l1 o1 l2 v3_firstHalf v4_value v4_held v5_charset_6 v5_based_6 v5_from_6 v5_to_6 v5_next_6 l6 o6 v8_value v8_held
          else
            if i3 = 0 then
              match (m_Reader_readInto n1 l1 o1 l2 v3_firstHalf v4_value v4_held i2 i4 4) with
              | (l1_9, o1_9, v2_firstHalf_9, v3_value_9, v3_held_9) =>
                match (m_MC_readWord n6 n1 v5_charset_6 v5_based_6 v5_from_6 v5_to_6 l2 v8_value v8_held l1_9 o1_9 v2_firstHalf_9 v3_value_9 v3_held_9) with
                | (l1_10, o1_10, v3_value_10, v3_held_10, l5_10, o5_10, v7_firstHalf_10, v8_value_10, v8_held_10) =>
                  m_MC_words_l22 n1 n6 nf22 i1 v5_next_6 1 (i4 + 1) l5_10 o5_10 l2 v7_firstHalf_10 v8_value_10 v8_held_10 v5_charset_6 v5_based_6 v5_from_6 v5_to_6 v5_next_6 l1_10 o1_10 v3_value_10 v3_held_10
            else
              if (m_MC_isBlank l2 i2 i4) = 0 then
                match (m_Reader_readInto n1 l1 o1 l2 v3_firstHalf v4_value v4_held i2 i4 4) with
                | (l0_14, o0_14, v1_firstHalf_14, v2_value_14, v2_held_14) =>
                  match (m_MC_readWord n6 n1 v5_charset_6 v5_based_6 v5_from_6 v5_to_6 l2 v8_value v8_held l0_14 o0_14 v1_firstHalf_14 v2_value_14 v2_held_14) with
                  | (l0_15, o0_15, v2_value_15, v2_held_15, l5_15, o5_15, v7_firstHalf_15, v8_value_15, v8_held_15) =>
                    m_MC_words_l22 n1 n6 nf22 i1 v5_next_6 1 (i4 + 1) l5_15 o5_15 l2 v7_firstHalf_15 v8_value_15 v8_held_15 v5_charset_6 v5_based_6 v5_from_6 v5_to_6 v5_next_6 l0_15 o0_15 v2_value_15 v2_held_15
              else
                match (m_MC_readWord n6 n1 v5_charset_6 v5_based_6 v5_from_6 v5_to_6 l2 v8_value v8_held l1 o1 v3_firstHalf v4_value v4_held) with
                | (l3_13, o3_13, v5_value_13, v5_held_13, l0_13, o0_13, v1_firstHalf_13, v2_value_13, v2_held_13) =>
                  m_MC_words_l22 n1 n6 nf22 i1 v5_next_6 1 (i4 + 1) l0_13 o0_13 l2 v1_firstHalf_13 v2_value_13 v2_held_13 v5_charset_6 v5_based_6 v5_from_6 v5_to_6 v5_next_6 l3_13 o3_13 v5_value_13 v5_held_13
def m_MC_words (n1 : Nat) (n6 : Nat) (l2 : List Int32) (v3_firstHalf : Int32) (v4_value : Int32) (v4_held : Int32) (v5_charset : Int32) (v5_based : Int32) (v5_from : Int32) (v5_to : Int32) (v5_next : Int32) (l6 : List Int32) (o6 : Int32) (v8_value : Int32) (v8_held : Int32) : Int32 × List Int32 × Int32 × List Int32 × Int32 × Int32 × Int32 × Int32 × Int32 × Int32 × Int32 × Int32 × Int32 × List Int32 × Int32 × Int32 × Int32 :=
  match m_Row_empty with
  | (l1_16, o1_16) =>
    m_MC_words_l22 n1 n6 (((m_Row_size l2).toInt - (0 : Int32).toInt).toNat + 1) (m_Row_size l2) 0 0 0 l1_16 o1_16 l2 v3_firstHalf v4_value v4_held v5_charset v5_based v5_from v5_to v5_next l6 o6 v8_value v8_held
def rm_MC_words : Room := { frames := 8, cells := 0, slots := 0, locals := 181 }
set_option maxHeartbeats 4000000 in
set_option maxRecDepth 100000 in
theorem c_MC_words (l : Launch) (D : va_G) (Z : gZT) (kI : ClassId) (a0 : Nat) (x0_ready : Nat) (x0_coder : Nat) (x0_writer : Nat) (a1 : Nat) (b1 : Nat) (n1 : Nat) (a2 : Nat) (b2 : Nat) (n2 : Nat) (a3 : Nat) (a4 : Nat) (a5 : Nat) (a6 : Nat) (b6 : Nat) (n6 : Nat) (a7 : Nat) (x7_line : Nat) (a8 : Nat) (sz : Nat) (f1 : Nat → Int32) (l1 : List Int32) (o1 : Int32) (f2 : Nat → Int32) (l2 : List Int32) (o2 : Int32) (v3_firstHalf : Int32) (v4_value : Int32) (v4_held : Int32) (v5_charset : Int32) (v5_based : Int32) (v5_from : Int32) (v5_to : Int32) (v5_next : Int32) (f6 : Nat → Int32) (l6 : List Int32) (o6 : Int32) (v8_value : Int32) (v8_held : Int32) (hr1 : g_rw n1 f1 l1) (hr2 : g_rw n2 f2 l2) (hr6 : g_rw n6 f6 l6) : gMi l y_MC_words w_MC_words rm_MC_words D Z kI [.ref a0] sz [(a0, .inr (8, [.ref x0_ready, .ref a1, .ref a7, .ref x0_coder, .ref a3, .ref x0_writer, .ref a5, .ref a2, .ref a6])), (a1, .inr (4, [.ref b1, .int (nI l1.length), .int o1])), (b1, .inl (kI, n1, .inl f1)), (a2, .inr (4, [.ref b2, .int (nI l2.length), .int o2])), (b2, .inl (kI, n2, .inl f2)), (a3, .inr (3, [.ref a4, .int v3_firstHalf])), (a4, .inr (0, [.int v4_value, .int v4_held])), (a5, .inr (6, [.int v5_charset, .int v5_based, .int v5_from, .int v5_to, .int v5_next])), (a6, .inr (4, [.ref b6, .int (nI l6.length), .int o6])), (b6, .inl (kI, n6, .inl f6)), (a7, .inr (5, [.ref a8, .ref x7_line])), (a8, .inr (0, [.int v8_value, .int v8_held]))] (fun (r : Int32) (u : (Nat → Int32) × List Int32 × Int32 × (Nat → Int32) × List Int32 × Int32 × Int32 × Int32 × Int32 × Int32 × Int32 × Int32 × Int32 × Int32 × (Nat → Int32) × List Int32 × Int32 × Int32 × Int32) => m_MC_words n1 n6 l2 v3_firstHalf v4_value v4_held v5_charset v5_based v5_from v5_to v5_next l6 o6 v8_value v8_held = (r, u.2.1, u.2.2.1, u.2.2.2.2.1, u.2.2.2.2.2.1, u.2.2.2.2.2.2.1, u.2.2.2.2.2.2.2.1, u.2.2.2.2.2.2.2.2.1, u.2.2.2.2.2.2.2.2.2.1, u.2.2.2.2.2.2.2.2.2.2.1, u.2.2.2.2.2.2.2.2.2.2.2.1, u.2.2.2.2.2.2.2.2.2.2.2.2.1, u.2.2.2.2.2.2.2.2.2.2.2.2.2.1, u.2.2.2.2.2.2.2.2.2.2.2.2.2.2.2.1, u.2.2.2.2.2.2.2.2.2.2.2.2.2.2.2.2.1, u.2.2.2.2.2.2.2.2.2.2.2.2.2.2.2.2.2.1, u.2.2.2.2.2.2.2.2.2.2.2.2.2.2.2.2.2.2) ∧ g_rw n1 u.1 u.2.1 ∧ g_rw n2 u.2.2.2.1 u.2.2.2.2.1 ∧ g_rw n6 u.2.2.2.2.2.2.2.2.2.2.2.2.2.2.1 u.2.2.2.2.2.2.2.2.2.2.2.2.2.2.2.1) (fun (u : (Nat → Int32) × List Int32 × Int32 × (Nat → Int32) × List Int32 × Int32 × Int32 × Int32 × Int32 × Int32 × Int32 × Int32 × Int32 × Int32 × (Nat → Int32) × List Int32 × Int32 × Int32 × Int32) => ([(a0, .inr (8, [.ref x0_ready, .ref a1, .ref a7, .ref x0_coder, .ref a3, .ref x0_writer, .ref a5, .ref a2, .ref a6])), (a1, .inr (4, [.ref b1, .int (nI u.2.1.length), .int u.2.2.1])), (b1, .inl (kI, n1, .inl u.1)), (a2, .inr (4, [.ref b2, .int (nI u.2.2.2.2.1.length), .int u.2.2.2.2.2.1])), (b2, .inl (kI, n2, .inl u.2.2.2.1)), (a3, .inr (3, [.ref a4, .int u.2.2.2.2.2.2.1])), (a4, .inr (0, [.int u.2.2.2.2.2.2.2.1, .int u.2.2.2.2.2.2.2.2.1])), (a5, .inr (6, [.int u.2.2.2.2.2.2.2.2.2.1, .int u.2.2.2.2.2.2.2.2.2.2.1, .int u.2.2.2.2.2.2.2.2.2.2.2.1, .int u.2.2.2.2.2.2.2.2.2.2.2.2.1, .int u.2.2.2.2.2.2.2.2.2.2.2.2.2.1])), (a6, .inr (4, [.ref b6, .int (nI u.2.2.2.2.2.2.2.2.2.2.2.2.2.2.2.1.length), .int u.2.2.2.2.2.2.2.2.2.2.2.2.2.2.2.2.1])), (b6, .inl (kI, n6, .inl u.2.2.2.2.2.2.2.2.2.2.2.2.2.2.1)), (a7, .inr (5, [.ref a8, .ref x7_line])), (a8, .inr (0, [.int u.2.2.2.2.2.2.2.2.2.2.2.2.2.2.2.2.2.1, .int u.2.2.2.2.2.2.2.2.2.2.2.2.2.2.2.2.2.2]))] : va_W)) := by
  refine g_ofi (cc := b_MC_words) (maxL := 5) (ty := .int) (by decide) rfl (Nat.le_of_ble_eq_true rfl) ?_
  intro p e s m below meth c A Q H ls hx hb hml hown hts hA hK hZ hP hD hS hl hret
  have hown : s.vm.findClass "MailCharacters" = some m.cls := hown
  have hl : lv_has ls 5 [(0, .ref a0)] := hl
  obtain ⟨RES, hRES⟩ : ∃ z, z = m_MC_words n1 n6 l2 v3_firstHalf v4_value v4_held v5_charset v5_based v5_from v5_to v5_next l6 o6 v8_value v8_held := ⟨_, rfl⟩
  have lp22 : ∀ (nf22 : Nat) (i1 : Int32) (i2 : Int32) (i3 : Int32) (i4 : Int32) (f1 : Nat → Int32) (l1 : List Int32) (o1 : Int32) (f2 : Nat → Int32) (l2 : List Int32) (o2 : Int32) (v3_firstHalf : Int32) (v4_value : Int32) (v4_held : Int32) (v5_charset : Int32) (v5_based : Int32) (v5_from : Int32) (v5_to : Int32) (v5_next : Int32) (f6 : Nat → Int32) (l6 : List Int32) (o6 : Int32) (v8_value : Int32) (v8_held : Int32) (hr1 : g_rw n1 f1 l1) (hr2 : g_rw n2 f2 l2) (hr6 : g_rw n6 f6 l6) (H : Heap) (locs : List Loc) (ls : Array Slot), ¬ 3000 < i1.toInt → (i1.toInt - i4.toInt).toNat < nf22 → RES = m_MC_words_l22 n1 n6 nf22 i1 i2 i3 i4 l1 o1 l2 v3_firstHalf v4_value v4_held v5_charset v5_based v5_from v5_to v5_next l6 o6 v8_value v8_held → va_P D vwCl [(a0, .inr (8, [.ref x0_ready, .ref a1, .ref a7, .ref x0_coder, .ref a3, .ref x0_writer, .ref a5, .ref a2, .ref a6])), (a1, .inr (4, [.ref b1, .int (nI l1.length), .int o1])), (b1, .inl (kI, n1, .inl f1)), (a2, .inr (4, [.ref b2, .int (nI l2.length), .int o2])), (b2, .inl (kI, n2, .inl f2)), (a3, .inr (3, [.ref a4, .int v3_firstHalf])), (a4, .inr (0, [.int v4_value, .int v4_held])), (a5, .inr (6, [.int v5_charset, .int v5_based, .int v5_from, .int v5_to, .int v5_next])), (a6, .inr (4, [.ref b6, .int (nI l6.length), .int o6])), (b6, .inl (kI, n6, .inl f6)), (a7, .inr (5, [.ref a8, .ref x7_line])), (a8, .inr (0, [.int v8_value, .int v8_held]))] H → va_D A [(a0, .inr (8, [.ref x0_ready, .ref a1, .ref a7, .ref x0_coder, .ref a3, .ref x0_writer, .ref a5, .ref a2, .ref a6])), (a1, .inr (4, [.ref b1, .int (nI l1.length), .int o1])), (b1, .inl (kI, n1, .inl f1)), (a2, .inr (4, [.ref b2, .int (nI l2.length), .int o2])), (b2, .inl (kI, n2, .inl f2)), (a3, .inr (3, [.ref a4, .int v3_firstHalf])), (a4, .inr (0, [.int v4_value, .int v4_held])), (a5, .inr (6, [.int v5_charset, .int v5_based, .int v5_from, .int v5_to, .int v5_next])), (a6, .inr (4, [.ref b6, .int (nI l6.length), .int o6])), (b6, .inl (kI, n6, .inl f6)), (a7, .inr (5, [.ref a8, .ref x7_line])), (a8, .inr (0, [.int v8_value, .int v8_held]))] → va_S A s.heap H locs → lv_has ls 5 [(0, .ref a0), (1, .int i1), (2, .int i2), (3, .int i3), (4, .int i4)] → W p l e rm_MC_words s m ([.ref a0] : List Value).toArray below meth c H locs 0 0 Q (F0 m 22 ls []) := by
    intro nf22
    induction nf22 with
    | zero => intro i1 i2 i3 i4 f1 l1 o1 f2 l2 o2 v3_firstHalf v4_value v4_held v5_charset v5_based v5_from v5_to v5_next f6 l6 o6 v8_value v8_held hr1 hr2 hr6 H locs ls hi22_0 hn22; exact absurd hn22 (Nat.not_lt_zero _)
    | succ nf22 ih22 =>
      intro i1 i2 i3 i4 f1 l1 o1 f2 l2 o2 v3_firstHalf v4_value v4_held v5_charset v5_based v5_from v5_to v5_next f6 l6 o6 v8_value v8_held hr1 hr2 hr6 H locs ls hi22_0 hn22 hF hP hD hS hl
      rw [m_MC_words_l22] at hF
      refine lv_iload hx hb d_MC_words_22 (lv_at hl 4 rfl) ?_
      refine lv_iload_n hx hb d_MC_words_24 rfl (lv_at hl 1 rfl) ?_
      refine lv_icmp_ge (tgt := 106) hx hb d_MC_words_25 (by decide) (fun c_1 => ?_) (fun c_1 => ?_)
      · rw [if_pos c_1] at hF
        refine lv_aload_n hx hb d_MC_words_106 rfl (lv_at hl 0 rfl) ?_
        refine va_get (D := D) (ci := 8) (v := .ref a3) (C := "MailCharacters") (T := F_MC) (N := 9) hx hb hts i_MC hown hK hP 0 rfl rfl 4 (by decide) (hts _ k_240) (fun _ h9 => h9) rfl d_MC_words_107 ?_
        refine lv_aload_n hx hb d_MC_words_110 rfl (lv_at hl 0 rfl) ?_
        refine va_get (D := D) (ci := 8) (v := .ref a2) (C := "MailCharacters") (T := F_MC) (N := 9) hx hb hts i_MC hown hK hP 0 rfl rfl 7 (by decide) (hts _ k_243) (fun _ h9 => h9) rfl d_MC_words_111 ?_
        refine lv_iload_n hx hb d_MC_words_114 rfl (lv_at hl 2 rfl) ?_
        refine lv_iload_n hx hb d_MC_words_115 rfl (lv_at hl 1 rfl) ?_
        refine lv_iconst (v := 4) hx hb d_MC_words_116 (by decide) ?_
        refine lv_aload_n hx hb d_MC_words_117 rfl (lv_at hl 0 rfl) ?_
        refine va_get (D := D) (ci := 8) (v := .ref a1) (C := "MailCharacters") (T := F_MC) (N := 9) hx hb hts i_MC hown hK hP 0 rfl rfl 1 (by decide) (hts _ k_237) (fun _ h9 => h9) rfl d_MC_words_118 ?_
        refine g_Vv (As := [.ref a2, .int i2, .int i1, .int 4, .ref a1]) (rest := []) (wr := [(a0, .inr (8, [.ref x0_ready, .ref a1, .ref a7, .ref x0_coder, .ref a3, .ref x0_writer, .ref a5, .ref a2, .ref a6])), (a5, .inr (6, [.int v5_charset, .int v5_based, .int v5_from, .int v5_to, .int v5_next])), (a6, .inr (4, [.ref b6, .int (nI l6.length), .int o6])), (b6, .inl (kI, n6, .inl f6)), (a7, .inr (5, [.ref a8, .ref x7_line])), (a8, .inr (0, [.int v8_value, .int v8_held]))]) ⟨hx, hb, hml, hown, hts⟩ (c_Reader_readInto l D Z kI a1 b1 n1 a2 b2 n2 a3 a4 H.size f1 l1 o1 f2 l2 o2 v3_firstHalf v4_value v4_held i2 i1 4 hr1 hr2 hi22_0) (cw_Reader_readInto hts k_401 ⟨Nat.le_of_ble_eq_true rfl, Nat.le_of_ble_eq_true rfl⟩) hK hZ hP hD hS hA [1, 2, 3, 4, 5, 6] [0, 7, 8, 9, 10, 11] (g_recv hK hP (ci := 3) (q0 := 5) rfl rfl) rfl rfl (by decide) (by decide) (by decide) rfl hl.1 rfl (Nat.le_of_ble_eq_true rfl) d_MC_words_121 ⟨Nat.zero_le _, Nat.zero_le _⟩ (fun u_2 H locs hw hP hD hS => ?_)
        obtain ⟨f1_2, l1_2, o1_2, v3_firstHalf_2, v4_value_2, v4_held_2⟩ := u_2
        have e_2 := hw.1
        have hr1_2 := hw.2
        have hP : va_P D vwCl [(a0, .inr (8, [.ref x0_ready, .ref a1, .ref a7, .ref x0_coder, .ref a3, .ref x0_writer, .ref a5, .ref a2, .ref a6])), (a5, .inr (6, [.int v5_charset, .int v5_based, .int v5_from, .int v5_to, .int v5_next])), (a6, .inr (4, [.ref b6, .int (nI l6.length), .int o6])), (b6, .inl (kI, n6, .inl f6)), (a7, .inr (5, [.ref a8, .ref x7_line])), (a8, .inr (0, [.int v8_value, .int v8_held])), (a1, .inr (4, [.ref b1, .int (nI l1_2.length), .int o1_2])), (b1, .inl (kI, n1, .inl f1_2)), (a2, .inr (4, [.ref b2, .int (nI l2.length), .int o2])), (b2, .inl (kI, n2, .inl f2)), (a3, .inr (3, [.ref a4, .int v3_firstHalf_2])), (a4, .inr (0, [.int v4_value_2, .int v4_held_2]))] H := hP
        have hD : va_D A [(a0, .inr (8, [.ref x0_ready, .ref a1, .ref a7, .ref x0_coder, .ref a3, .ref x0_writer, .ref a5, .ref a2, .ref a6])), (a5, .inr (6, [.int v5_charset, .int v5_based, .int v5_from, .int v5_to, .int v5_next])), (a6, .inr (4, [.ref b6, .int (nI l6.length), .int o6])), (b6, .inl (kI, n6, .inl f6)), (a7, .inr (5, [.ref a8, .ref x7_line])), (a8, .inr (0, [.int v8_value, .int v8_held])), (a1, .inr (4, [.ref b1, .int (nI l1_2.length), .int o1_2])), (b1, .inl (kI, n1, .inl f1_2)), (a2, .inr (4, [.ref b2, .int (nI l2.length), .int o2])), (b2, .inl (kI, n2, .inl f2)), (a3, .inr (3, [.ref a4, .int v3_firstHalf_2])), (a4, .inr (0, [.int v4_value_2, .int v4_held_2]))] := hD
        rw [e_2] at hF; dsimp only at hF
        refine lv_aload_n hx hb d_MC_words_124 rfl (lv_at hl 0 rfl) ?_
        refine va_get (D := D) (ci := 8) (v := .ref a2) (C := "MailCharacters") (T := F_MC) (N := 9) hx hb hts i_MC hown hK hP 0 rfl rfl 7 (by decide) (hts _ k_243) (fun _ h9 => h9) rfl d_MC_words_125 ?_
        refine g_Vv (As := []) (rest := []) (wr := [(a0, .inr (8, [.ref x0_ready, .ref a1, .ref a7, .ref x0_coder, .ref a3, .ref x0_writer, .ref a5, .ref a2, .ref a6])), (a5, .inr (6, [.int v5_charset, .int v5_based, .int v5_from, .int v5_to, .int v5_next])), (a6, .inr (4, [.ref b6, .int (nI l6.length), .int o6])), (b6, .inl (kI, n6, .inl f6)), (a7, .inr (5, [.ref a8, .ref x7_line])), (a8, .inr (0, [.int v8_value, .int v8_held])), (a1, .inr (4, [.ref b1, .int (nI l1_2.length), .int o1_2])), (b1, .inl (kI, n1, .inl f1_2)), (a3, .inr (3, [.ref a4, .int v3_firstHalf_2])), (a4, .inr (0, [.int v4_value_2, .int v4_held_2]))]) ⟨hx, hb, hml, hown, hts⟩ (c_Row_empty l D Z kI a2 b2 n2 H.size f2 l2 o2 hr2) (cw_Row_empty hts k_367 ⟨Nat.le_of_ble_eq_true rfl, Nat.le_of_ble_eq_true rfl⟩) hK hZ hP hD hS hA [8, 9] [0, 1, 2, 3, 4, 5, 6, 7, 10, 11] (g_recv hK hP (ci := 4) (q0 := 8) rfl rfl) rfl rfl (by decide) (by decide) (by decide) rfl hl.1 rfl (Nat.le_of_ble_eq_true rfl) d_MC_words_128 ⟨Nat.zero_le _, Nat.zero_le _⟩ (fun u_3 H locs hw hP hD hS => ?_)
        obtain ⟨f6_3, l6_3, o6_3⟩ := u_3
        have e_3 := hw.1
        have hr6_3 := hw.2
        have hP : va_P D vwCl [(a0, .inr (8, [.ref x0_ready, .ref a1, .ref a7, .ref x0_coder, .ref a3, .ref x0_writer, .ref a5, .ref a2, .ref a6])), (a5, .inr (6, [.int v5_charset, .int v5_based, .int v5_from, .int v5_to, .int v5_next])), (a6, .inr (4, [.ref b6, .int (nI l6.length), .int o6])), (b6, .inl (kI, n6, .inl f6)), (a7, .inr (5, [.ref a8, .ref x7_line])), (a8, .inr (0, [.int v8_value, .int v8_held])), (a1, .inr (4, [.ref b1, .int (nI l1_2.length), .int o1_2])), (b1, .inl (kI, n1, .inl f1_2)), (a3, .inr (3, [.ref a4, .int v3_firstHalf_2])), (a4, .inr (0, [.int v4_value_2, .int v4_held_2])), (a2, .inr (4, [.ref b2, .int (nI l6_3.length), .int o6_3])), (b2, .inl (kI, n2, .inl f6_3))] H := hP
        have hD : va_D A [(a0, .inr (8, [.ref x0_ready, .ref a1, .ref a7, .ref x0_coder, .ref a3, .ref x0_writer, .ref a5, .ref a2, .ref a6])), (a5, .inr (6, [.int v5_charset, .int v5_based, .int v5_from, .int v5_to, .int v5_next])), (a6, .inr (4, [.ref b6, .int (nI l6.length), .int o6])), (b6, .inl (kI, n6, .inl f6)), (a7, .inr (5, [.ref a8, .ref x7_line])), (a8, .inr (0, [.int v8_value, .int v8_held])), (a1, .inr (4, [.ref b1, .int (nI l1_2.length), .int o1_2])), (b1, .inl (kI, n1, .inl f1_2)), (a3, .inr (3, [.ref a4, .int v3_firstHalf_2])), (a4, .inr (0, [.int v4_value_2, .int v4_held_2])), (a2, .inr (4, [.ref b2, .int (nI l6_3.length), .int o6_3])), (b2, .inl (kI, n2, .inl f6_3))] := hD
        rw [e_3] at hF; dsimp only at hF
        refine lv_aload_n hx hb d_MC_words_131 rfl (lv_at hl 0 rfl) ?_
        refine va_get (D := D) (ci := 8) (v := .ref a1) (C := "MailCharacters") (T := F_MC) (N := 9) hx hb hts i_MC hown hK hP 0 rfl rfl 1 (by decide) (hts _ k_237) (fun _ h9 => h9) rfl d_MC_words_132 ?_
        refine g_Vi (As := []) (rest := []) (wr := [(a0, .inr (8, [.ref x0_ready, .ref a1, .ref a7, .ref x0_coder, .ref a3, .ref x0_writer, .ref a5, .ref a2, .ref a6])), (a5, .inr (6, [.int v5_charset, .int v5_based, .int v5_from, .int v5_to, .int v5_next])), (a6, .inr (4, [.ref b6, .int (nI l6.length), .int o6])), (b6, .inl (kI, n6, .inl f6)), (a7, .inr (5, [.ref a8, .ref x7_line])), (a8, .inr (0, [.int v8_value, .int v8_held])), (a3, .inr (3, [.ref a4, .int v3_firstHalf_2])), (a4, .inr (0, [.int v4_value_2, .int v4_held_2])), (a2, .inr (4, [.ref b2, .int (nI l6_3.length), .int o6_3])), (b2, .inl (kI, n2, .inl f6_3))]) ⟨hx, hb, hml, hown, hts⟩ (c_Row_size l D Z kI a1 b1 n1 H.size f1_2 l1_2 o1_2 hr1_2) (cw_Row_size hts k_281 ⟨Nat.le_of_ble_eq_true rfl, Nat.le_of_ble_eq_true rfl⟩) hK hZ hP hD hS hA [6, 7] [0, 1, 2, 3, 4, 5, 8, 9, 10, 11] (g_recv hK hP (ci := 4) (q0 := 6) rfl rfl) rfl rfl (by decide) (by decide) (by decide) rfl hl.1 rfl (Nat.le_of_ble_eq_true rfl) d_MC_words_135 ⟨Nat.zero_le _, Nat.zero_le _⟩ (fun r_4 u_4 H locs hw hP hD hS => ?_)
        have e_4 := hw
        subst e_4
        have hP : va_P D vwCl [(a0, .inr (8, [.ref x0_ready, .ref a1, .ref a7, .ref x0_coder, .ref a3, .ref x0_writer, .ref a5, .ref a2, .ref a6])), (a5, .inr (6, [.int v5_charset, .int v5_based, .int v5_from, .int v5_to, .int v5_next])), (a6, .inr (4, [.ref b6, .int (nI l6.length), .int o6])), (b6, .inl (kI, n6, .inl f6)), (a7, .inr (5, [.ref a8, .ref x7_line])), (a8, .inr (0, [.int v8_value, .int v8_held])), (a3, .inr (3, [.ref a4, .int v3_firstHalf_2])), (a4, .inr (0, [.int v4_value_2, .int v4_held_2])), (a2, .inr (4, [.ref b2, .int (nI l6_3.length), .int o6_3])), (b2, .inl (kI, n2, .inl f6_3)), (a1, .inr (4, [.ref b1, .int (nI l1_2.length), .int o1_2])), (b1, .inl (kI, n1, .inl f1_2))] H := hP
        have hD : va_D A [(a0, .inr (8, [.ref x0_ready, .ref a1, .ref a7, .ref x0_coder, .ref a3, .ref x0_writer, .ref a5, .ref a2, .ref a6])), (a5, .inr (6, [.int v5_charset, .int v5_based, .int v5_from, .int v5_to, .int v5_next])), (a6, .inr (4, [.ref b6, .int (nI l6.length), .int o6])), (b6, .inl (kI, n6, .inl f6)), (a7, .inr (5, [.ref a8, .ref x7_line])), (a8, .inr (0, [.int v8_value, .int v8_held])), (a3, .inr (3, [.ref a4, .int v3_firstHalf_2])), (a4, .inr (0, [.int v4_value_2, .int v4_held_2])), (a2, .inr (4, [.ref b2, .int (nI l6_3.length), .int o6_3])), (b2, .inl (kI, n2, .inl f6_3)), (a1, .inr (4, [.ref b1, .int (nI l1_2.length), .int o1_2])), (b1, .inl (kI, n1, .inl f1_2))] := hD
        exact hret (m_Row_size l1_2) (f1_2, l1_2, o1_2, f6_3, l6_3, o6_3, v3_firstHalf_2, v4_value_2, v4_held_2, v5_charset, v5_based, v5_from, v5_to, v5_next, f6, l6, o6, v8_value, v8_held) _ _ _ _ d_MC_words_138 rfl (⟨hRES.symm.trans hF, hr1_2, hr6_3, hr6⟩) (hP.sub [0, 10, 11, 8, 9, 6, 7, 1, 2, 3, 4, 5] rfl) (hD.sub [0, 10, 11, 8, 9, 6, 7, 1, 2, 3, 4, 5] (by decide) rfl) hS
      · rw [if_neg c_1] at hF
        refine lv_iload hx hb d_MC_words_28 (lv_at hl 4 rfl) ?_
        refine lv_iload_n hx hb d_MC_words_30 rfl (lv_at hl 2 rfl) ?_
        refine lv_icmp_lt (tgt := 100) hx hb d_MC_words_31 (by decide) (fun c_5 => ?_) (fun c_5 => ?_)
        · rw [if_pos c_5] at hF
          refine lv_iinc (v := (i4 + 1)) (lv' := [(4, .int (i4 + 1)), (0, .ref a0), (1, .int i1), (2, .int i2), (3, .int i3)]) hx hb d_MC_words_100 hl (k := 4) rfl rfl (by decide) rfl (fun ls hl => ?_)
          refine lv_goto (tgt := 22) hx hb d_MC_words_103 (by decide) ?_
          exact ih22 i1 i2 i3 (i4 + 1) f1 l1 o1 f2 l2 o2 v3_firstHalf v4_value v4_held v5_charset v5_based v5_from v5_to v5_next f6 l6 o6 v8_value v8_held hr1 hr2 hr6 _ _ _ hi22_0 (Nat.lt_of_lt_of_le (g_dec1 c_1) (Nat.le_of_lt_succ hn22)) hF hP hD hS (lv_sub hl [1, 2, 3, 4, 0] rfl)
        · rw [if_neg c_5] at hF
          refine lv_aload_n hx hb d_MC_words_34 rfl (lv_at hl 0 rfl) ?_
          refine va_get (D := D) (ci := 8) (v := .ref a5) (C := "MailCharacters") (T := F_MC) (N := 9) hx hb hts i_MC hown hK hP 0 rfl rfl 6 (by decide) (hts _ k_242) (fun _ h9 => h9) rfl d_MC_words_35 ?_
          refine lv_aload_n hx hb d_MC_words_38 rfl (lv_at hl 0 rfl) ?_
          refine va_get (D := D) (ci := 8) (v := .ref a2) (C := "MailCharacters") (T := F_MC) (N := 9) hx hb hts i_MC hown hK hP 0 rfl rfl 7 (by decide) (hts _ k_243) (fun _ h9 => h9) rfl d_MC_words_39 ?_
          refine lv_iload hx hb d_MC_words_42 (lv_at hl 4 rfl) ?_
          refine g_Vi (As := [.ref a2, .int i4]) (rest := []) (wr := [(a0, .inr (8, [.ref x0_ready, .ref a1, .ref a7, .ref x0_coder, .ref a3, .ref x0_writer, .ref a5, .ref a2, .ref a6])), (a1, .inr (4, [.ref b1, .int (nI l1.length), .int o1])), (b1, .inl (kI, n1, .inl f1)), (a3, .inr (3, [.ref a4, .int v3_firstHalf])), (a4, .inr (0, [.int v4_value, .int v4_held])), (a6, .inr (4, [.ref b6, .int (nI l6.length), .int o6])), (b6, .inl (kI, n6, .inl f6)), (a7, .inr (5, [.ref a8, .ref x7_line])), (a8, .inr (0, [.int v8_value, .int v8_held]))]) ⟨hx, hb, hml, hown, hts⟩ (c_Word_standsAt l D Z kI a2 b2 n2 a5 H.size f2 l2 o2 v5_charset v5_based v5_from v5_to v5_next i4 hr2) (cw_Word_standsAt hts k_376 ⟨Nat.le_of_ble_eq_true rfl, Nat.le_of_ble_eq_true rfl⟩) hK hZ hP hD hS hA [3, 4, 7] [0, 1, 2, 5, 6, 8, 9, 10, 11] (g_recv hK hP (ci := 6) (q0 := 7) rfl rfl) rfl rfl (by decide) (by decide) (by decide) rfl hl.1 rfl (Nat.le_of_ble_eq_true rfl) d_MC_words_44 ⟨Nat.zero_le _, Nat.zero_le _⟩ (fun r_6 u_6 H locs hw hP hD hS => ?_)
          obtain ⟨v5_charset_6, v5_based_6, v5_from_6, v5_to_6, v5_next_6⟩ := u_6
          have e_6 := hw
          have hP : va_P D vwCl [(a0, .inr (8, [.ref x0_ready, .ref a1, .ref a7, .ref x0_coder, .ref a3, .ref x0_writer, .ref a5, .ref a2, .ref a6])), (a1, .inr (4, [.ref b1, .int (nI l1.length), .int o1])), (b1, .inl (kI, n1, .inl f1)), (a3, .inr (3, [.ref a4, .int v3_firstHalf])), (a4, .inr (0, [.int v4_value, .int v4_held])), (a6, .inr (4, [.ref b6, .int (nI l6.length), .int o6])), (b6, .inl (kI, n6, .inl f6)), (a7, .inr (5, [.ref a8, .ref x7_line])), (a8, .inr (0, [.int v8_value, .int v8_held])), (a2, .inr (4, [.ref b2, .int (nI l2.length), .int o2])), (b2, .inl (kI, n2, .inl f2)), (a5, .inr (6, [.int v5_charset_6, .int v5_based_6, .int v5_from_6, .int v5_to_6, .int v5_next_6]))] H := hP
          have hD : va_D A [(a0, .inr (8, [.ref x0_ready, .ref a1, .ref a7, .ref x0_coder, .ref a3, .ref x0_writer, .ref a5, .ref a2, .ref a6])), (a1, .inr (4, [.ref b1, .int (nI l1.length), .int o1])), (b1, .inl (kI, n1, .inl f1)), (a3, .inr (3, [.ref a4, .int v3_firstHalf])), (a4, .inr (0, [.int v4_value, .int v4_held])), (a6, .inr (4, [.ref b6, .int (nI l6.length), .int o6])), (b6, .inl (kI, n6, .inl f6)), (a7, .inr (5, [.ref a8, .ref x7_line])), (a8, .inr (0, [.int v8_value, .int v8_held])), (a2, .inr (4, [.ref b2, .int (nI l2.length), .int o2])), (b2, .inl (kI, n2, .inl f2)), (a5, .inr (6, [.int v5_charset_6, .int v5_based_6, .int v5_from_6, .int v5_to_6, .int v5_next_6]))] := hD
          rw [e_6] at hF; dsimp only at hF
          refine lv_if_ne (tgt := 53) hx hb d_MC_words_47 (by decide) (fun c_7 => ?_) (fun c_7 => ?_)
          · rw [if_neg c_7] at hF
            refine lv_iload_n hx hb d_MC_words_53 rfl (lv_at hl 3 rfl) ?_
            refine lv_if_eq (tgt := 67) hx hb d_MC_words_54 (by decide) (fun c_8 => ?_) (fun c_8 => ?_)
            · rw [if_pos c_8] at hF
              refine lv_aload_n hx hb d_MC_words_67 rfl (lv_at hl 0 rfl) ?_
              refine va_get (D := D) (ci := 8) (v := .ref a3) (C := "MailCharacters") (T := F_MC) (N := 9) hx hb hts i_MC hown hK hP 0 rfl rfl 4 (by decide) (hts _ k_240) (fun _ h9 => h9) rfl d_MC_words_68 ?_
              refine lv_aload_n hx hb d_MC_words_71 rfl (lv_at hl 0 rfl) ?_
              refine va_get (D := D) (ci := 8) (v := .ref a2) (C := "MailCharacters") (T := F_MC) (N := 9) hx hb hts i_MC hown hK hP 0 rfl rfl 7 (by decide) (hts _ k_243) (fun _ h9 => h9) rfl d_MC_words_72 ?_
              refine lv_iload_n hx hb d_MC_words_75 rfl (lv_at hl 2 rfl) ?_
              refine lv_iload hx hb d_MC_words_76 (lv_at hl 4 rfl) ?_
              refine lv_iconst (v := 4) hx hb d_MC_words_78 (by decide) ?_
              refine lv_aload_n hx hb d_MC_words_79 rfl (lv_at hl 0 rfl) ?_
              refine va_get (D := D) (ci := 8) (v := .ref a1) (C := "MailCharacters") (T := F_MC) (N := 9) hx hb hts i_MC hown hK hP 0 rfl rfl 1 (by decide) (hts _ k_237) (fun _ h9 => h9) rfl d_MC_words_80 ?_
              refine g_Vv (As := [.ref a2, .int i2, .int i4, .int 4, .ref a1]) (rest := []) (wr := [(a0, .inr (8, [.ref x0_ready, .ref a1, .ref a7, .ref x0_coder, .ref a3, .ref x0_writer, .ref a5, .ref a2, .ref a6])), (a6, .inr (4, [.ref b6, .int (nI l6.length), .int o6])), (b6, .inl (kI, n6, .inl f6)), (a7, .inr (5, [.ref a8, .ref x7_line])), (a8, .inr (0, [.int v8_value, .int v8_held])), (a5, .inr (6, [.int v5_charset_6, .int v5_based_6, .int v5_from_6, .int v5_to_6, .int v5_next_6]))]) ⟨hx, hb, hml, hown, hts⟩ (c_Reader_readInto l D Z kI a1 b1 n1 a2 b2 n2 a3 a4 H.size f1 l1 o1 f2 l2 o2 v3_firstHalf v4_value v4_held i2 i4 4 hr1 hr2 (g_lele c_1 hi22_0)) (cw_Reader_readInto hts k_401 ⟨Nat.le_of_ble_eq_true rfl, Nat.le_of_ble_eq_true rfl⟩) hK hZ hP hD hS hA [1, 2, 9, 10, 3, 4] [0, 5, 6, 7, 8, 11] (g_recv hK hP (ci := 3) (q0 := 3) rfl rfl) rfl rfl (by decide) (by decide) (by decide) rfl hl.1 rfl (Nat.le_of_ble_eq_true rfl) d_MC_words_83 ⟨Nat.zero_le _, Nat.zero_le _⟩ (fun u_9 H locs hw hP hD hS => ?_)
              obtain ⟨f1_9, l1_9, o1_9, v2_firstHalf_9, v3_value_9, v3_held_9⟩ := u_9
              have e_9 := hw.1
              have hr1_9 := hw.2
              have hP : va_P D vwCl [(a0, .inr (8, [.ref x0_ready, .ref a1, .ref a7, .ref x0_coder, .ref a3, .ref x0_writer, .ref a5, .ref a2, .ref a6])), (a6, .inr (4, [.ref b6, .int (nI l6.length), .int o6])), (b6, .inl (kI, n6, .inl f6)), (a7, .inr (5, [.ref a8, .ref x7_line])), (a8, .inr (0, [.int v8_value, .int v8_held])), (a5, .inr (6, [.int v5_charset_6, .int v5_based_6, .int v5_from_6, .int v5_to_6, .int v5_next_6])), (a1, .inr (4, [.ref b1, .int (nI l1_9.length), .int o1_9])), (b1, .inl (kI, n1, .inl f1_9)), (a2, .inr (4, [.ref b2, .int (nI l2.length), .int o2])), (b2, .inl (kI, n2, .inl f2)), (a3, .inr (3, [.ref a4, .int v2_firstHalf_9])), (a4, .inr (0, [.int v3_value_9, .int v3_held_9]))] H := hP
              have hD : va_D A [(a0, .inr (8, [.ref x0_ready, .ref a1, .ref a7, .ref x0_coder, .ref a3, .ref x0_writer, .ref a5, .ref a2, .ref a6])), (a6, .inr (4, [.ref b6, .int (nI l6.length), .int o6])), (b6, .inl (kI, n6, .inl f6)), (a7, .inr (5, [.ref a8, .ref x7_line])), (a8, .inr (0, [.int v8_value, .int v8_held])), (a5, .inr (6, [.int v5_charset_6, .int v5_based_6, .int v5_from_6, .int v5_to_6, .int v5_next_6])), (a1, .inr (4, [.ref b1, .int (nI l1_9.length), .int o1_9])), (b1, .inl (kI, n1, .inl f1_9)), (a2, .inr (4, [.ref b2, .int (nI l2.length), .int o2])), (b2, .inl (kI, n2, .inl f2)), (a3, .inr (3, [.ref a4, .int v2_firstHalf_9])), (a4, .inr (0, [.int v3_value_9, .int v3_held_9]))] := hD
              rw [e_9] at hF; dsimp only at hF
              refine lv_aload_n hx hb d_MC_words_86 rfl (lv_at hl 0 rfl) ?_
              refine g_Vv (As := []) (rest := []) (wr := []) ⟨hx, hb, hml, hown, hts⟩ (c_MC_readWord l D Z kI a0 x0_ready x0_coder x0_writer a6 b6 n6 a5 a2 b2 n2 a7 x7_line a8 a1 b1 n1 a3 a4 H.size f6 l6 o6 v5_charset_6 v5_based_6 v5_from_6 v5_to_6 v5_next_6 f2 l2 o2 v8_value v8_held f1_9 l1_9 o1_9 v2_firstHalf_9 v3_value_9 v3_held_9 hr6 hr2 hr1_9) (cw_MC_readWord hts k_490 ⟨Nat.le_of_ble_eq_true rfl, Nat.le_of_ble_eq_true rfl⟩) hK hZ hP hD hS hA [0, 1, 2, 5, 8, 9, 3, 4, 6, 7, 10, 11] [] (g_recv hK hP (ci := 8) (q0 := 0) rfl rfl) rfl rfl (by decide) (by decide) (by decide) rfl hl.1 rfl (Nat.le_of_ble_eq_true rfl) d_MC_words_87 ⟨Nat.zero_le _, Nat.zero_le _⟩ (fun u_10 H locs hw hP hD hS => ?_)
              obtain ⟨f1_10, l1_10, o1_10, v3_value_10, v3_held_10, f5_10, l5_10, o5_10, v7_firstHalf_10, v8_value_10, v8_held_10⟩ := u_10
              have e_10 := hw.1
              have hr1_10 := hw.2.1
              have hr5_10 := hw.2.2
              have hP : va_P D vwCl [(a0, .inr (8, [.ref x0_ready, .ref a1, .ref a7, .ref x0_coder, .ref a3, .ref x0_writer, .ref a5, .ref a2, .ref a6])), (a6, .inr (4, [.ref b6, .int (nI l1_10.length), .int o1_10])), (b6, .inl (kI, n6, .inl f1_10)), (a5, .inr (6, [.int v5_charset_6, .int v5_based_6, .int v5_from_6, .int v5_to_6, .int v5_next_6])), (a2, .inr (4, [.ref b2, .int (nI l2.length), .int o2])), (b2, .inl (kI, n2, .inl f2)), (a7, .inr (5, [.ref a8, .ref x7_line])), (a8, .inr (0, [.int v3_value_10, .int v3_held_10])), (a1, .inr (4, [.ref b1, .int (nI l5_10.length), .int o5_10])), (b1, .inl (kI, n1, .inl f5_10)), (a3, .inr (3, [.ref a4, .int v7_firstHalf_10])), (a4, .inr (0, [.int v8_value_10, .int v8_held_10]))] H := hP
              have hD : va_D A [(a0, .inr (8, [.ref x0_ready, .ref a1, .ref a7, .ref x0_coder, .ref a3, .ref x0_writer, .ref a5, .ref a2, .ref a6])), (a6, .inr (4, [.ref b6, .int (nI l1_10.length), .int o1_10])), (b6, .inl (kI, n6, .inl f1_10)), (a5, .inr (6, [.int v5_charset_6, .int v5_based_6, .int v5_from_6, .int v5_to_6, .int v5_next_6])), (a2, .inr (4, [.ref b2, .int (nI l2.length), .int o2])), (b2, .inl (kI, n2, .inl f2)), (a7, .inr (5, [.ref a8, .ref x7_line])), (a8, .inr (0, [.int v3_value_10, .int v3_held_10])), (a1, .inr (4, [.ref b1, .int (nI l5_10.length), .int o5_10])), (b1, .inl (kI, n1, .inl f5_10)), (a3, .inr (3, [.ref a4, .int v7_firstHalf_10])), (a4, .inr (0, [.int v8_value_10, .int v8_held_10]))] := hD
              rw [e_10] at hF; dsimp only at hF
              refine lv_aload_n hx hb d_MC_words_90 rfl (lv_at hl 0 rfl) ?_
              refine va_get (D := D) (ci := 8) (v := .ref a5) (C := "MailCharacters") (T := F_MC) (N := 9) hx hb hts i_MC hown hK hP 0 rfl rfl 6 (by decide) (hts _ k_242) (fun _ h9 => h9) rfl d_MC_words_91 ?_
              refine va_getN (D := D) (ci := 6) (v := .int v5_next_6) (C := "MailCharacters$Word") (T := F_Word) (N := 5) hx hb hts i_Word hown hK hP 3 rfl rfl 4 (by decide) (gZ_nf hZ 0 (q := ("MailCharacters", 121, "MailCharacters$Word", "next", "I")) rfl) (fun _ h9 => h9) rfl d_MC_words_94 ?_
              refine lv_istore_n (lv' := [(2, .int v5_next_6), (0, .ref a0), (1, .int i1), (3, .int i3), (4, .int i4)]) hx hb d_MC_words_97 rfl hl (by decide) rfl (fun ls hl => ?_)
              refine lv_iconst (v := 1) hx hb d_MC_words_98 (by decide) ?_
              refine lv_istore_n (lv' := [(3, .int 1), (2, .int v5_next_6), (0, .ref a0), (1, .int i1), (4, .int i4)]) hx hb d_MC_words_99 rfl hl (by decide) rfl (fun ls hl => ?_)
              refine lv_iinc (v := (i4 + 1)) (lv' := [(4, .int (i4 + 1)), (3, .int 1), (2, .int v5_next_6), (0, .ref a0), (1, .int i1)]) hx hb d_MC_words_100 hl (k := 4) rfl rfl (by decide) rfl (fun ls hl => ?_)
              refine lv_goto (tgt := 22) hx hb d_MC_words_103 (by decide) ?_
              exact ih22 i1 v5_next_6 1 (i4 + 1) f5_10 l5_10 o5_10 f2 l2 o2 v7_firstHalf_10 v8_value_10 v8_held_10 v5_charset_6 v5_based_6 v5_from_6 v5_to_6 v5_next_6 f1_10 l1_10 o1_10 v3_value_10 v3_held_10 hr5_10 hr2 hr1_10 _ _ _ hi22_0 (Nat.lt_of_lt_of_le (g_dec1 c_1) (Nat.le_of_lt_succ hn22)) hF (hP.sub [0, 8, 9, 4, 5, 10, 11, 3, 1, 2, 6, 7] rfl) (hD.sub [0, 8, 9, 4, 5, 10, 11, 3, 1, 2, 6, 7] (by decide) rfl) hS (lv_sub hl [3, 4, 2, 1, 0] rfl)
            · rw [if_neg c_8] at hF
              refine lv_aload_n hx hb d_MC_words_57 rfl (lv_at hl 0 rfl) ?_
              refine lv_iload_n hx hb d_MC_words_58 rfl (lv_at hl 2 rfl) ?_
              refine lv_iload hx hb d_MC_words_59 (lv_at hl 4 rfl) ?_
              refine g_Vi (As := [.int i2, .int i4]) (rest := []) (wr := [(a1, .inr (4, [.ref b1, .int (nI l1.length), .int o1])), (b1, .inl (kI, n1, .inl f1)), (a3, .inr (3, [.ref a4, .int v3_firstHalf])), (a4, .inr (0, [.int v4_value, .int v4_held])), (a6, .inr (4, [.ref b6, .int (nI l6.length), .int o6])), (b6, .inl (kI, n6, .inl f6)), (a7, .inr (5, [.ref a8, .ref x7_line])), (a8, .inr (0, [.int v8_value, .int v8_held])), (a5, .inr (6, [.int v5_charset_6, .int v5_based_6, .int v5_from_6, .int v5_to_6, .int v5_next_6]))]) ⟨hx, hb, hml, hown, hts⟩ (c_MC_isBlank l D Z kI a0 x0_ready a1 a7 x0_coder a3 x0_writer a5 a6 a2 b2 n2 H.size f2 l2 o2 i2 i4 hr2) (cw_MC_isBlank hts k_396 ⟨Nat.le_of_ble_eq_true rfl, Nat.le_of_ble_eq_true rfl⟩) hK hZ hP hD hS hA [0, 9, 10] [1, 2, 3, 4, 5, 6, 7, 8, 11] (g_recv hK hP (ci := 8) (q0 := 0) rfl rfl) rfl rfl (by decide) (by decide) (by decide) rfl hl.1 rfl (Nat.le_of_ble_eq_true rfl) d_MC_words_61 ⟨Nat.zero_le _, Nat.zero_le _⟩ (fun r_11 u_11 H locs hw hP hD hS => ?_)
              have e_11 := hw
              subst e_11
              have hP : va_P D vwCl [(a1, .inr (4, [.ref b1, .int (nI l1.length), .int o1])), (b1, .inl (kI, n1, .inl f1)), (a3, .inr (3, [.ref a4, .int v3_firstHalf])), (a4, .inr (0, [.int v4_value, .int v4_held])), (a6, .inr (4, [.ref b6, .int (nI l6.length), .int o6])), (b6, .inl (kI, n6, .inl f6)), (a7, .inr (5, [.ref a8, .ref x7_line])), (a8, .inr (0, [.int v8_value, .int v8_held])), (a5, .inr (6, [.int v5_charset_6, .int v5_based_6, .int v5_from_6, .int v5_to_6, .int v5_next_6])), (a0, .inr (8, [.ref x0_ready, .ref a1, .ref a7, .ref x0_coder, .ref a3, .ref x0_writer, .ref a5, .ref a2, .ref a6])), (a2, .inr (4, [.ref b2, .int (nI l2.length), .int o2])), (b2, .inl (kI, n2, .inl f2))] H := hP
              have hD : va_D A [(a1, .inr (4, [.ref b1, .int (nI l1.length), .int o1])), (b1, .inl (kI, n1, .inl f1)), (a3, .inr (3, [.ref a4, .int v3_firstHalf])), (a4, .inr (0, [.int v4_value, .int v4_held])), (a6, .inr (4, [.ref b6, .int (nI l6.length), .int o6])), (b6, .inl (kI, n6, .inl f6)), (a7, .inr (5, [.ref a8, .ref x7_line])), (a8, .inr (0, [.int v8_value, .int v8_held])), (a5, .inr (6, [.int v5_charset_6, .int v5_based_6, .int v5_from_6, .int v5_to_6, .int v5_next_6])), (a0, .inr (8, [.ref x0_ready, .ref a1, .ref a7, .ref x0_coder, .ref a3, .ref x0_writer, .ref a5, .ref a2, .ref a6])), (a2, .inr (4, [.ref b2, .int (nI l2.length), .int o2])), (b2, .inl (kI, n2, .inl f2))] := hD
              refine lv_if_ne (tgt := 86) hx hb d_MC_words_64 (by decide) (fun c_12 => ?_) (fun c_12 => ?_)
              · rw [if_neg c_12] at hF
                refine lv_aload_n hx hb d_MC_words_86 rfl (lv_at hl 0 rfl) ?_
                refine g_Vv (As := []) (rest := []) (wr := []) ⟨hx, hb, hml, hown, hts⟩ (c_MC_readWord l D Z kI a0 x0_ready x0_coder x0_writer a6 b6 n6 a5 a2 b2 n2 a7 x7_line a8 a1 b1 n1 a3 a4 H.size f6 l6 o6 v5_charset_6 v5_based_6 v5_from_6 v5_to_6 v5_next_6 f2 l2 o2 v8_value v8_held f1 l1 o1 v3_firstHalf v4_value v4_held hr6 hr2 hr1) (cw_MC_readWord hts k_490 ⟨Nat.le_of_ble_eq_true rfl, Nat.le_of_ble_eq_true rfl⟩) hK hZ hP hD hS hA [9, 4, 5, 8, 10, 11, 6, 7, 0, 1, 2, 3] [] (g_recv hK hP (ci := 8) (q0 := 9) rfl rfl) rfl rfl (by decide) (by decide) (by decide) rfl hl.1 rfl (Nat.le_of_ble_eq_true rfl) d_MC_words_87 ⟨Nat.zero_le _, Nat.zero_le _⟩ (fun u_13 H locs hw hP hD hS => ?_)
                obtain ⟨f3_13, l3_13, o3_13, v5_value_13, v5_held_13, f0_13, l0_13, o0_13, v1_firstHalf_13, v2_value_13, v2_held_13⟩ := u_13
                have e_13 := hw.1
                have hr3_13 := hw.2.1
                have hr0_13 := hw.2.2
                have hP : va_P D vwCl [(a0, .inr (8, [.ref x0_ready, .ref a1, .ref a7, .ref x0_coder, .ref a3, .ref x0_writer, .ref a5, .ref a2, .ref a6])), (a6, .inr (4, [.ref b6, .int (nI l3_13.length), .int o3_13])), (b6, .inl (kI, n6, .inl f3_13)), (a5, .inr (6, [.int v5_charset_6, .int v5_based_6, .int v5_from_6, .int v5_to_6, .int v5_next_6])), (a2, .inr (4, [.ref b2, .int (nI l2.length), .int o2])), (b2, .inl (kI, n2, .inl f2)), (a7, .inr (5, [.ref a8, .ref x7_line])), (a8, .inr (0, [.int v5_value_13, .int v5_held_13])), (a1, .inr (4, [.ref b1, .int (nI l0_13.length), .int o0_13])), (b1, .inl (kI, n1, .inl f0_13)), (a3, .inr (3, [.ref a4, .int v1_firstHalf_13])), (a4, .inr (0, [.int v2_value_13, .int v2_held_13]))] H := hP
                have hD : va_D A [(a0, .inr (8, [.ref x0_ready, .ref a1, .ref a7, .ref x0_coder, .ref a3, .ref x0_writer, .ref a5, .ref a2, .ref a6])), (a6, .inr (4, [.ref b6, .int (nI l3_13.length), .int o3_13])), (b6, .inl (kI, n6, .inl f3_13)), (a5, .inr (6, [.int v5_charset_6, .int v5_based_6, .int v5_from_6, .int v5_to_6, .int v5_next_6])), (a2, .inr (4, [.ref b2, .int (nI l2.length), .int o2])), (b2, .inl (kI, n2, .inl f2)), (a7, .inr (5, [.ref a8, .ref x7_line])), (a8, .inr (0, [.int v5_value_13, .int v5_held_13])), (a1, .inr (4, [.ref b1, .int (nI l0_13.length), .int o0_13])), (b1, .inl (kI, n1, .inl f0_13)), (a3, .inr (3, [.ref a4, .int v1_firstHalf_13])), (a4, .inr (0, [.int v2_value_13, .int v2_held_13]))] := hD
                rw [e_13] at hF; dsimp only at hF
                refine lv_aload_n hx hb d_MC_words_90 rfl (lv_at hl 0 rfl) ?_
                refine va_get (D := D) (ci := 8) (v := .ref a5) (C := "MailCharacters") (T := F_MC) (N := 9) hx hb hts i_MC hown hK hP 0 rfl rfl 6 (by decide) (hts _ k_242) (fun _ h9 => h9) rfl d_MC_words_91 ?_
                refine va_getN (D := D) (ci := 6) (v := .int v5_next_6) (C := "MailCharacters$Word") (T := F_Word) (N := 5) hx hb hts i_Word hown hK hP 3 rfl rfl 4 (by decide) (gZ_nf hZ 0 (q := ("MailCharacters", 121, "MailCharacters$Word", "next", "I")) rfl) (fun _ h9 => h9) rfl d_MC_words_94 ?_
                refine lv_istore_n (lv' := [(2, .int v5_next_6), (0, .ref a0), (1, .int i1), (3, .int i3), (4, .int i4)]) hx hb d_MC_words_97 rfl hl (by decide) rfl (fun ls hl => ?_)
                refine lv_iconst (v := 1) hx hb d_MC_words_98 (by decide) ?_
                refine lv_istore_n (lv' := [(3, .int 1), (2, .int v5_next_6), (0, .ref a0), (1, .int i1), (4, .int i4)]) hx hb d_MC_words_99 rfl hl (by decide) rfl (fun ls hl => ?_)
                refine lv_iinc (v := (i4 + 1)) (lv' := [(4, .int (i4 + 1)), (3, .int 1), (2, .int v5_next_6), (0, .ref a0), (1, .int i1)]) hx hb d_MC_words_100 hl (k := 4) rfl rfl (by decide) rfl (fun ls hl => ?_)
                refine lv_goto (tgt := 22) hx hb d_MC_words_103 (by decide) ?_
                exact ih22 i1 v5_next_6 1 (i4 + 1) f0_13 l0_13 o0_13 f2 l2 o2 v1_firstHalf_13 v2_value_13 v2_held_13 v5_charset_6 v5_based_6 v5_from_6 v5_to_6 v5_next_6 f3_13 l3_13 o3_13 v5_value_13 v5_held_13 hr0_13 hr2 hr3_13 _ _ _ hi22_0 (Nat.lt_of_lt_of_le (g_dec1 c_1) (Nat.le_of_lt_succ hn22)) hF (hP.sub [0, 8, 9, 4, 5, 10, 11, 3, 1, 2, 6, 7] rfl) (hD.sub [0, 8, 9, 4, 5, 10, 11, 3, 1, 2, 6, 7] (by decide) rfl) hS (lv_sub hl [3, 4, 2, 1, 0] rfl)
              · rw [if_pos c_12] at hF
                refine lv_aload_n hx hb d_MC_words_67 rfl (lv_at hl 0 rfl) ?_
                refine va_get (D := D) (ci := 8) (v := .ref a3) (C := "MailCharacters") (T := F_MC) (N := 9) hx hb hts i_MC hown hK hP 9 rfl rfl 4 (by decide) (hts _ k_240) (fun _ h9 => h9) rfl d_MC_words_68 ?_
                refine lv_aload_n hx hb d_MC_words_71 rfl (lv_at hl 0 rfl) ?_
                refine va_get (D := D) (ci := 8) (v := .ref a2) (C := "MailCharacters") (T := F_MC) (N := 9) hx hb hts i_MC hown hK hP 9 rfl rfl 7 (by decide) (hts _ k_243) (fun _ h9 => h9) rfl d_MC_words_72 ?_
                refine lv_iload_n hx hb d_MC_words_75 rfl (lv_at hl 2 rfl) ?_
                refine lv_iload hx hb d_MC_words_76 (lv_at hl 4 rfl) ?_
                refine lv_iconst (v := 4) hx hb d_MC_words_78 (by decide) ?_
                refine lv_aload_n hx hb d_MC_words_79 rfl (lv_at hl 0 rfl) ?_
                refine va_get (D := D) (ci := 8) (v := .ref a1) (C := "MailCharacters") (T := F_MC) (N := 9) hx hb hts i_MC hown hK hP 9 rfl rfl 1 (by decide) (hts _ k_237) (fun _ h9 => h9) rfl d_MC_words_80 ?_
                refine g_Vv (As := [.ref a2, .int i2, .int i4, .int 4, .ref a1]) (rest := []) (wr := [(a6, .inr (4, [.ref b6, .int (nI l6.length), .int o6])), (b6, .inl (kI, n6, .inl f6)), (a7, .inr (5, [.ref a8, .ref x7_line])), (a8, .inr (0, [.int v8_value, .int v8_held])), (a5, .inr (6, [.int v5_charset_6, .int v5_based_6, .int v5_from_6, .int v5_to_6, .int v5_next_6])), (a0, .inr (8, [.ref x0_ready, .ref a1, .ref a7, .ref x0_coder, .ref a3, .ref x0_writer, .ref a5, .ref a2, .ref a6]))]) ⟨hx, hb, hml, hown, hts⟩ (c_Reader_readInto l D Z kI a1 b1 n1 a2 b2 n2 a3 a4 H.size f1 l1 o1 f2 l2 o2 v3_firstHalf v4_value v4_held i2 i4 4 hr1 hr2 (g_lele c_1 hi22_0)) (cw_Reader_readInto hts k_401 ⟨Nat.le_of_ble_eq_true rfl, Nat.le_of_ble_eq_true rfl⟩) hK hZ hP hD hS hA [0, 1, 10, 11, 2, 3] [4, 5, 6, 7, 8, 9] (g_recv hK hP (ci := 3) (q0 := 2) rfl rfl) rfl rfl (by decide) (by decide) (by decide) rfl hl.1 rfl (Nat.le_of_ble_eq_true rfl) d_MC_words_83 ⟨Nat.zero_le _, Nat.zero_le _⟩ (fun u_14 H locs hw hP hD hS => ?_)
                obtain ⟨f0_14, l0_14, o0_14, v1_firstHalf_14, v2_value_14, v2_held_14⟩ := u_14
                have e_14 := hw.1
                have hr0_14 := hw.2
                have hP : va_P D vwCl [(a6, .inr (4, [.ref b6, .int (nI l6.length), .int o6])), (b6, .inl (kI, n6, .inl f6)), (a7, .inr (5, [.ref a8, .ref x7_line])), (a8, .inr (0, [.int v8_value, .int v8_held])), (a5, .inr (6, [.int v5_charset_6, .int v5_based_6, .int v5_from_6, .int v5_to_6, .int v5_next_6])), (a0, .inr (8, [.ref x0_ready, .ref a1, .ref a7, .ref x0_coder, .ref a3, .ref x0_writer, .ref a5, .ref a2, .ref a6])), (a1, .inr (4, [.ref b1, .int (nI l0_14.length), .int o0_14])), (b1, .inl (kI, n1, .inl f0_14)), (a2, .inr (4, [.ref b2, .int (nI l2.length), .int o2])), (b2, .inl (kI, n2, .inl f2)), (a3, .inr (3, [.ref a4, .int v1_firstHalf_14])), (a4, .inr (0, [.int v2_value_14, .int v2_held_14]))] H := hP
                have hD : va_D A [(a6, .inr (4, [.ref b6, .int (nI l6.length), .int o6])), (b6, .inl (kI, n6, .inl f6)), (a7, .inr (5, [.ref a8, .ref x7_line])), (a8, .inr (0, [.int v8_value, .int v8_held])), (a5, .inr (6, [.int v5_charset_6, .int v5_based_6, .int v5_from_6, .int v5_to_6, .int v5_next_6])), (a0, .inr (8, [.ref x0_ready, .ref a1, .ref a7, .ref x0_coder, .ref a3, .ref x0_writer, .ref a5, .ref a2, .ref a6])), (a1, .inr (4, [.ref b1, .int (nI l0_14.length), .int o0_14])), (b1, .inl (kI, n1, .inl f0_14)), (a2, .inr (4, [.ref b2, .int (nI l2.length), .int o2])), (b2, .inl (kI, n2, .inl f2)), (a3, .inr (3, [.ref a4, .int v1_firstHalf_14])), (a4, .inr (0, [.int v2_value_14, .int v2_held_14]))] := hD
                rw [e_14] at hF; dsimp only at hF
                refine lv_aload_n hx hb d_MC_words_86 rfl (lv_at hl 0 rfl) ?_
                refine g_Vv (As := []) (rest := []) (wr := []) ⟨hx, hb, hml, hown, hts⟩ (c_MC_readWord l D Z kI a0 x0_ready x0_coder x0_writer a6 b6 n6 a5 a2 b2 n2 a7 x7_line a8 a1 b1 n1 a3 a4 H.size f6 l6 o6 v5_charset_6 v5_based_6 v5_from_6 v5_to_6 v5_next_6 f2 l2 o2 v8_value v8_held f0_14 l0_14 o0_14 v1_firstHalf_14 v2_value_14 v2_held_14 hr6 hr2 hr0_14) (cw_MC_readWord hts k_490 ⟨Nat.le_of_ble_eq_true rfl, Nat.le_of_ble_eq_true rfl⟩) hK hZ hP hD hS hA [5, 0, 1, 4, 8, 9, 2, 3, 6, 7, 10, 11] [] (g_recv hK hP (ci := 8) (q0 := 5) rfl rfl) rfl rfl (by decide) (by decide) (by decide) rfl hl.1 rfl (Nat.le_of_ble_eq_true rfl) d_MC_words_87 ⟨Nat.zero_le _, Nat.zero_le _⟩ (fun u_15 H locs hw hP hD hS => ?_)
                obtain ⟨f0_15, l0_15, o0_15, v2_value_15, v2_held_15, f5_15, l5_15, o5_15, v7_firstHalf_15, v8_value_15, v8_held_15⟩ := u_15
                have e_15 := hw.1
                have hr0_15 := hw.2.1
                have hr5_15 := hw.2.2
                have hP : va_P D vwCl [(a0, .inr (8, [.ref x0_ready, .ref a1, .ref a7, .ref x0_coder, .ref a3, .ref x0_writer, .ref a5, .ref a2, .ref a6])), (a6, .inr (4, [.ref b6, .int (nI l0_15.length), .int o0_15])), (b6, .inl (kI, n6, .inl f0_15)), (a5, .inr (6, [.int v5_charset_6, .int v5_based_6, .int v5_from_6, .int v5_to_6, .int v5_next_6])), (a2, .inr (4, [.ref b2, .int (nI l2.length), .int o2])), (b2, .inl (kI, n2, .inl f2)), (a7, .inr (5, [.ref a8, .ref x7_line])), (a8, .inr (0, [.int v2_value_15, .int v2_held_15])), (a1, .inr (4, [.ref b1, .int (nI l5_15.length), .int o5_15])), (b1, .inl (kI, n1, .inl f5_15)), (a3, .inr (3, [.ref a4, .int v7_firstHalf_15])), (a4, .inr (0, [.int v8_value_15, .int v8_held_15]))] H := hP
                have hD : va_D A [(a0, .inr (8, [.ref x0_ready, .ref a1, .ref a7, .ref x0_coder, .ref a3, .ref x0_writer, .ref a5, .ref a2, .ref a6])), (a6, .inr (4, [.ref b6, .int (nI l0_15.length), .int o0_15])), (b6, .inl (kI, n6, .inl f0_15)), (a5, .inr (6, [.int v5_charset_6, .int v5_based_6, .int v5_from_6, .int v5_to_6, .int v5_next_6])), (a2, .inr (4, [.ref b2, .int (nI l2.length), .int o2])), (b2, .inl (kI, n2, .inl f2)), (a7, .inr (5, [.ref a8, .ref x7_line])), (a8, .inr (0, [.int v2_value_15, .int v2_held_15])), (a1, .inr (4, [.ref b1, .int (nI l5_15.length), .int o5_15])), (b1, .inl (kI, n1, .inl f5_15)), (a3, .inr (3, [.ref a4, .int v7_firstHalf_15])), (a4, .inr (0, [.int v8_value_15, .int v8_held_15]))] := hD
                rw [e_15] at hF; dsimp only at hF
                refine lv_aload_n hx hb d_MC_words_90 rfl (lv_at hl 0 rfl) ?_
                refine va_get (D := D) (ci := 8) (v := .ref a5) (C := "MailCharacters") (T := F_MC) (N := 9) hx hb hts i_MC hown hK hP 0 rfl rfl 6 (by decide) (hts _ k_242) (fun _ h9 => h9) rfl d_MC_words_91 ?_
                refine va_getN (D := D) (ci := 6) (v := .int v5_next_6) (C := "MailCharacters$Word") (T := F_Word) (N := 5) hx hb hts i_Word hown hK hP 3 rfl rfl 4 (by decide) (gZ_nf hZ 0 (q := ("MailCharacters", 121, "MailCharacters$Word", "next", "I")) rfl) (fun _ h9 => h9) rfl d_MC_words_94 ?_
                refine lv_istore_n (lv' := [(2, .int v5_next_6), (0, .ref a0), (1, .int i1), (3, .int i3), (4, .int i4)]) hx hb d_MC_words_97 rfl hl (by decide) rfl (fun ls hl => ?_)
                refine lv_iconst (v := 1) hx hb d_MC_words_98 (by decide) ?_
                refine lv_istore_n (lv' := [(3, .int 1), (2, .int v5_next_6), (0, .ref a0), (1, .int i1), (4, .int i4)]) hx hb d_MC_words_99 rfl hl (by decide) rfl (fun ls hl => ?_)
                refine lv_iinc (v := (i4 + 1)) (lv' := [(4, .int (i4 + 1)), (3, .int 1), (2, .int v5_next_6), (0, .ref a0), (1, .int i1)]) hx hb d_MC_words_100 hl (k := 4) rfl rfl (by decide) rfl (fun ls hl => ?_)
                refine lv_goto (tgt := 22) hx hb d_MC_words_103 (by decide) ?_
                exact ih22 i1 v5_next_6 1 (i4 + 1) f5_15 l5_15 o5_15 f2 l2 o2 v7_firstHalf_15 v8_value_15 v8_held_15 v5_charset_6 v5_based_6 v5_from_6 v5_to_6 v5_next_6 f0_15 l0_15 o0_15 v2_value_15 v2_held_15 hr5_15 hr2 hr0_15 _ _ _ hi22_0 (Nat.lt_of_lt_of_le (g_dec1 c_1) (Nat.le_of_lt_succ hn22)) hF (hP.sub [0, 8, 9, 4, 5, 10, 11, 3, 1, 2, 6, 7] rfl) (hD.sub [0, 8, 9, 4, 5, 10, 11, 3, 1, 2, 6, 7] (by decide) rfl) hS (lv_sub hl [3, 4, 2, 1, 0] rfl)
          · rw [if_pos c_7] at hF
            refine lv_goto (tgt := 100) hx hb d_MC_words_50 (by decide) ?_
            refine lv_iinc (v := (i4 + 1)) (lv' := [(4, .int (i4 + 1)), (0, .ref a0), (1, .int i1), (2, .int i2), (3, .int i3)]) hx hb d_MC_words_100 hl (k := 4) rfl rfl (by decide) rfl (fun ls hl => ?_)
            refine lv_goto (tgt := 22) hx hb d_MC_words_103 (by decide) ?_
            exact ih22 i1 i2 i3 (i4 + 1) f1 l1 o1 f2 l2 o2 v3_firstHalf v4_value v4_held v5_charset_6 v5_based_6 v5_from_6 v5_to_6 v5_next_6 f6 l6 o6 v8_value v8_held hr1 hr2 hr6 _ _ _ hi22_0 (Nat.lt_of_lt_of_le (g_dec1 c_1) (Nat.le_of_lt_succ hn22)) hF (hP.sub [0, 1, 2, 9, 10, 3, 4, 11, 5, 6, 7, 8] rfl) (hD.sub [0, 1, 2, 9, 10, 3, 4, 11, 5, 6, 7, 8] (by decide) rfl) hS (lv_sub hl [1, 2, 3, 4, 0] rfl)
  have hF := hRES
  rw [m_MC_words] at hF
  refine lv_aload_n hx hb d_MC_words_0 rfl (lv_at hl 0 rfl) ?_
  refine va_get (D := D) (ci := 8) (v := .ref a1) (C := "MailCharacters") (T := F_MC) (N := 9) hx hb hts i_MC hown hK hP 0 rfl rfl 1 (by decide) (hts _ k_237) (fun _ h9 => h9) rfl d_MC_words_1 ?_
  refine g_Vv (As := []) (rest := []) (wr := [(a0, .inr (8, [.ref x0_ready, .ref a1, .ref a7, .ref x0_coder, .ref a3, .ref x0_writer, .ref a5, .ref a2, .ref a6])), (a2, .inr (4, [.ref b2, .int (nI l2.length), .int o2])), (b2, .inl (kI, n2, .inl f2)), (a3, .inr (3, [.ref a4, .int v3_firstHalf])), (a4, .inr (0, [.int v4_value, .int v4_held])), (a5, .inr (6, [.int v5_charset, .int v5_based, .int v5_from, .int v5_to, .int v5_next])), (a6, .inr (4, [.ref b6, .int (nI l6.length), .int o6])), (b6, .inl (kI, n6, .inl f6)), (a7, .inr (5, [.ref a8, .ref x7_line])), (a8, .inr (0, [.int v8_value, .int v8_held]))]) ⟨hx, hb, hml, hown, hts⟩ (c_Row_empty l D Z kI a1 b1 n1 H.size f1 l1 o1 hr1) (cw_Row_empty hts k_367 ⟨Nat.le_of_ble_eq_true rfl, Nat.le_of_ble_eq_true rfl⟩) hK hZ hP hD hS hA [1, 2] [0, 3, 4, 5, 6, 7, 8, 9, 10, 11] (g_recv hK hP (ci := 4) (q0 := 1) rfl rfl) rfl rfl (by decide) (by decide) (by decide) rfl hl.1 rfl (Nat.le_of_ble_eq_true rfl) d_MC_words_4 ⟨Nat.zero_le _, Nat.zero_le _⟩ (fun u_16 H locs hw hP hD hS => ?_)
  obtain ⟨f1_16, l1_16, o1_16⟩ := u_16
  have e_16 := hw.1
  have hr1_16 := hw.2
  have hP : va_P D vwCl [(a0, .inr (8, [.ref x0_ready, .ref a1, .ref a7, .ref x0_coder, .ref a3, .ref x0_writer, .ref a5, .ref a2, .ref a6])), (a2, .inr (4, [.ref b2, .int (nI l2.length), .int o2])), (b2, .inl (kI, n2, .inl f2)), (a3, .inr (3, [.ref a4, .int v3_firstHalf])), (a4, .inr (0, [.int v4_value, .int v4_held])), (a5, .inr (6, [.int v5_charset, .int v5_based, .int v5_from, .int v5_to, .int v5_next])), (a6, .inr (4, [.ref b6, .int (nI l6.length), .int o6])), (b6, .inl (kI, n6, .inl f6)), (a7, .inr (5, [.ref a8, .ref x7_line])), (a8, .inr (0, [.int v8_value, .int v8_held])), (a1, .inr (4, [.ref b1, .int (nI l1_16.length), .int o1_16])), (b1, .inl (kI, n1, .inl f1_16))] H := hP
  have hD : va_D A [(a0, .inr (8, [.ref x0_ready, .ref a1, .ref a7, .ref x0_coder, .ref a3, .ref x0_writer, .ref a5, .ref a2, .ref a6])), (a2, .inr (4, [.ref b2, .int (nI l2.length), .int o2])), (b2, .inl (kI, n2, .inl f2)), (a3, .inr (3, [.ref a4, .int v3_firstHalf])), (a4, .inr (0, [.int v4_value, .int v4_held])), (a5, .inr (6, [.int v5_charset, .int v5_based, .int v5_from, .int v5_to, .int v5_next])), (a6, .inr (4, [.ref b6, .int (nI l6.length), .int o6])), (b6, .inl (kI, n6, .inl f6)), (a7, .inr (5, [.ref a8, .ref x7_line])), (a8, .inr (0, [.int v8_value, .int v8_held])), (a1, .inr (4, [.ref b1, .int (nI l1_16.length), .int o1_16])), (b1, .inl (kI, n1, .inl f1_16))] := hD
  rw [e_16] at hF; dsimp only at hF
  refine lv_aload_n hx hb d_MC_words_7 rfl (lv_at hl 0 rfl) ?_
  refine va_get (D := D) (ci := 8) (v := .ref a2) (C := "MailCharacters") (T := F_MC) (N := 9) hx hb hts i_MC hown hK hP 0 rfl rfl 7 (by decide) (hts _ k_243) (fun _ h9 => h9) rfl d_MC_words_8 ?_
  refine g_Vi (As := []) (rest := []) (wr := [(a0, .inr (8, [.ref x0_ready, .ref a1, .ref a7, .ref x0_coder, .ref a3, .ref x0_writer, .ref a5, .ref a2, .ref a6])), (a3, .inr (3, [.ref a4, .int v3_firstHalf])), (a4, .inr (0, [.int v4_value, .int v4_held])), (a5, .inr (6, [.int v5_charset, .int v5_based, .int v5_from, .int v5_to, .int v5_next])), (a6, .inr (4, [.ref b6, .int (nI l6.length), .int o6])), (b6, .inl (kI, n6, .inl f6)), (a7, .inr (5, [.ref a8, .ref x7_line])), (a8, .inr (0, [.int v8_value, .int v8_held])), (a1, .inr (4, [.ref b1, .int (nI l1_16.length), .int o1_16])), (b1, .inl (kI, n1, .inl f1_16))]) ⟨hx, hb, hml, hown, hts⟩ (c_Row_size l D Z kI a2 b2 n2 H.size f2 l2 o2 hr2) (cw_Row_size hts k_281 ⟨Nat.le_of_ble_eq_true rfl, Nat.le_of_ble_eq_true rfl⟩) hK hZ hP hD hS hA [1, 2] [0, 3, 4, 5, 6, 7, 8, 9, 10, 11] (g_recv hK hP (ci := 4) (q0 := 1) rfl rfl) rfl rfl (by decide) (by decide) (by decide) rfl hl.1 rfl (Nat.le_of_ble_eq_true rfl) d_MC_words_11 ⟨Nat.zero_le _, Nat.zero_le _⟩ (fun r_17 u_17 H locs hw hP hD hS => ?_)
  have e_17 := hw
  subst e_17
  have hP : va_P D vwCl [(a0, .inr (8, [.ref x0_ready, .ref a1, .ref a7, .ref x0_coder, .ref a3, .ref x0_writer, .ref a5, .ref a2, .ref a6])), (a3, .inr (3, [.ref a4, .int v3_firstHalf])), (a4, .inr (0, [.int v4_value, .int v4_held])), (a5, .inr (6, [.int v5_charset, .int v5_based, .int v5_from, .int v5_to, .int v5_next])), (a6, .inr (4, [.ref b6, .int (nI l6.length), .int o6])), (b6, .inl (kI, n6, .inl f6)), (a7, .inr (5, [.ref a8, .ref x7_line])), (a8, .inr (0, [.int v8_value, .int v8_held])), (a1, .inr (4, [.ref b1, .int (nI l1_16.length), .int o1_16])), (b1, .inl (kI, n1, .inl f1_16)), (a2, .inr (4, [.ref b2, .int (nI l2.length), .int o2])), (b2, .inl (kI, n2, .inl f2))] H := hP
  have hD : va_D A [(a0, .inr (8, [.ref x0_ready, .ref a1, .ref a7, .ref x0_coder, .ref a3, .ref x0_writer, .ref a5, .ref a2, .ref a6])), (a3, .inr (3, [.ref a4, .int v3_firstHalf])), (a4, .inr (0, [.int v4_value, .int v4_held])), (a5, .inr (6, [.int v5_charset, .int v5_based, .int v5_from, .int v5_to, .int v5_next])), (a6, .inr (4, [.ref b6, .int (nI l6.length), .int o6])), (b6, .inl (kI, n6, .inl f6)), (a7, .inr (5, [.ref a8, .ref x7_line])), (a8, .inr (0, [.int v8_value, .int v8_held])), (a1, .inr (4, [.ref b1, .int (nI l1_16.length), .int o1_16])), (b1, .inl (kI, n1, .inl f1_16)), (a2, .inr (4, [.ref b2, .int (nI l2.length), .int o2])), (b2, .inl (kI, n2, .inl f2))] := hD
  refine lv_istore_n (lv' := [(1, .int (m_Row_size l2)), (0, .ref a0)]) hx hb d_MC_words_14 rfl hl (by decide) rfl (fun ls hl => ?_)
  refine lv_iconst (v := 0) hx hb d_MC_words_15 (by decide) ?_
  refine lv_istore_n (lv' := [(2, .int 0), (1, .int (m_Row_size l2)), (0, .ref a0)]) hx hb d_MC_words_16 rfl hl (by decide) rfl (fun ls hl => ?_)
  refine lv_iconst (v := 0) hx hb d_MC_words_17 (by decide) ?_
  refine lv_istore_n (lv' := [(3, .int 0), (2, .int 0), (1, .int (m_Row_size l2)), (0, .ref a0)]) hx hb d_MC_words_18 rfl hl (by decide) rfl (fun ls hl => ?_)
  refine lv_iconst (v := 0) hx hb d_MC_words_19 (by decide) ?_
  refine lv_istore (lv' := [(4, .int 0), (3, .int 0), (2, .int 0), (1, .int (m_Row_size l2)), (0, .ref a0)]) hx hb d_MC_words_20 hl (by decide) rfl (fun ls hl => ?_)
  exact lp22 (((m_Row_size l2).toInt - (0 : Int32).toInt).toNat + 1) (m_Row_size l2) 0 0 0 f1_16 l1_16 o1_16 f2 l2 o2 v3_firstHalf v4_value v4_held v5_charset v5_based v5_from v5_to v5_next f6 l6 o6 v8_value v8_held hr1_16 hr2 hr6 _ _ _ (g_szle hr2) (Nat.lt_succ_self _) hF (hP.sub [0, 8, 9, 10, 11, 1, 2, 3, 4, 5, 6, 7] rfl) (hD.sub [0, 8, 9, 10, 11, 1, 2, 3, 4, 5, 6, 7] (by decide) rfl) hS (lv_sub hl [4, 3, 2, 1, 0] rfl)
theorem cw_MC_words {R : Room} {s : State} {args : Array Value} {own : String} {idx : Nat} (hts : ∀ w ∈ gW, w.before args s = true) (hl : Cond.methodLink own idx y_MC_words ∈ gW) (hR : rm_MC_words.frames + 1 ≤ R.frames ∧ 8 + (5 + 11) + rm_MC_words.locals ≤ R.locals) : CallW R s args own "MailCharacters" idx y_MC_words b_MC_words 5 (some .int) w_MC_words rm_MC_words 0 0 0 := cwV 0 hts (gW_V hl k_373 k_374 k_67 k_375) rfl rfl rfl (by decide +kernel) hR
