def m_Coder_quoteByte (n1 : Nat) (v0_inLine : Int32) (l1 : List Int32) (o1 : Int32) (p1 : Int32) (p2 : Int32) : Int32 × List Int32 × Int32 :=
  if p2 = 0 then
    if ((v0_inLine + 3) + 1) ≤ 76 then
      match (m_Row_put n1 l1 o1 61) with
      | (l1_4, o1_4) =>
        match (m_Row_put n1 l1_4 o1_4 (m_Letters_digitOf (p1 >>> ((4 : Int32) &&& 31)))) with
        | (l1_6, o1_6) =>
          match (m_Row_put n1 l1_6 o1_6 (m_Letters_digitOf p1)) with
          | (l1_8, o1_8) =>
            ((v0_inLine + 3), l1_8, o1_8)
    else
      match (m_Row_put n1 l1 o1 61) with
      | (l1_9, o1_9) =>
        match (m_Coder_endLine n1 l1_9 o1_9) with
        | (l1_10, o1_10, v0_inLine_10) =>
          match (m_Row_put n1 l1_10 o1_10 61) with
          | (l0_12, o0_12) =>
            match (m_Row_put n1 l0_12 o0_12 (m_Letters_digitOf (p1 >>> ((4 : Int32) &&& 31)))) with
            | (l1_14, o1_14) =>
              match (m_Row_put n1 l1_14 o1_14 (m_Letters_digitOf p1)) with
              | (l1_16, o1_16) =>
                ((v0_inLine_10 + 3), l1_16, o1_16)
  else
    if ((v0_inLine + 1) + 1) ≤ 76 then
      match (m_Row_put n1 l1 o1 p1) with
      | (l1_19, o1_19) =>
        ((v0_inLine + 1), l1_19, o1_19)
    else
      match (m_Row_put n1 l1 o1 61) with
      | (l1_20, o1_20) =>
        match (m_Coder_endLine n1 l1_20 o1_20) with
        | (l1_21, o1_21, v0_inLine_21) =>
          match (m_Row_put n1 l1_21 o1_21 p1) with
          | (l0_23, o0_23) =>
            ((v0_inLine_21 + 1), l0_23, o0_23)
def rm_Coder_quoteByte : Room := { frames := 5, cells := 0, slots := 0, locals := 105 }
set_option maxHeartbeats 4000000 in
set_option maxRecDepth 100000 in
theorem c_Coder_quoteByte (l : Launch) (D : va_G) (Z : gZT) (kI : ClassId) (a0 : Nat) (x0_bits : Nat) (a1 : Nat) (b1 : Nat) (n1 : Nat) (sz : Nat) (v0_inLine : Int32) (f1 : Nat → Int32) (l1 : List Int32) (o1 : Int32) (p1 : Int32) (p2 : Int32) (hr1 : g_rw n1 f1 l1) : gMv l y_Coder_quoteByte w_Coder_quoteByte rm_Coder_quoteByte D Z kI [.ref a0, .int p1, .int p2, .ref a1] sz [(a0, .inr (1, [.ref x0_bits, .int v0_inLine])), (a1, .inr (4, [.ref b1, .int (nI l1.length), .int o1])), (b1, .inl (kI, n1, .inl f1))] (fun (u : Int32 × (Nat → Int32) × List Int32 × Int32) => m_Coder_quoteByte n1 v0_inLine l1 o1 p1 p2 = (u.1, u.2.2.1, u.2.2.2) ∧ g_rw n1 u.2.1 u.2.2.1) (fun (u : Int32 × (Nat → Int32) × List Int32 × Int32) => ([(a0, .inr (1, [.ref x0_bits, .int u.1])), (a1, .inr (4, [.ref b1, .int (nI u.2.2.1.length), .int u.2.2.2])), (b1, .inl (kI, n1, .inl u.2.1))] : va_W)) := by
  refine g_ofv (cc := b_Coder_quoteByte) (maxL := 5) (by decide) rfl (Nat.le_of_ble_eq_true rfl) ?_
  intro p e s m below meth c A Q H ls hx hb hml hown hts hA hK hZ hP hD hS hl hret
  have hown : s.vm.findClass "MailCharacters$Coder" = some m.cls := hown
  have hl : lv_has ls 5 [(0, .ref a0), (1, .int p1), (2, .int p2), (3, .ref a1)] := hl
  obtain ⟨RES, hRES⟩ : ∃ z, z = m_Coder_quoteByte n1 v0_inLine l1 o1 p1 p2 := ⟨_, rfl⟩
  have hF := hRES
  rw [m_Coder_quoteByte] at hF
  refine lv_iload_n hx hb d_Coder_quoteByte_0 rfl (lv_at hl 2 rfl) ?_
  refine lv_if_eq (tgt := 8) hx hb d_Coder_quoteByte_1 (by decide) (fun c_1 => ?_) (fun c_1 => ?_)
  · rw [if_pos c_1] at hF
    refine lv_iconst (v := 3) hx hb d_Coder_quoteByte_8 (by decide) ?_
    refine lv_istore (lv' := [(4, .int 3), (0, .ref a0), (1, .int p1), (2, .int p2), (3, .ref a1)]) hx hb d_Coder_quoteByte_9 hl (by decide) rfl (fun ls hl => ?_)
    refine lv_aload_n hx hb d_Coder_quoteByte_11 rfl (lv_at hl 1 rfl) ?_
    refine va_get (D := D) (ci := 1) (v := .int v0_inLine) (C := "MailCharacters$Coder") (T := F_Coder) (N := 2) hx hb hts i_Coder hown hK hP 0 rfl rfl 1 (by decide) (hts _ k_176) (fun _ h9 => h9) rfl d_Coder_quoteByte_12 ?_
    refine lv_iload hx hb d_Coder_quoteByte_15 (lv_at hl 0 rfl) ?_
    refine lv_iadd hx hb d_Coder_quoteByte_17 ?_
    refine lv_iconst (v := 1) hx hb d_Coder_quoteByte_18 (by decide) ?_
    refine lv_iadd hx hb d_Coder_quoteByte_19 ?_
    refine lv_bipush (v := 76) hx hb d_Coder_quoteByte_20 (by decide) ?_
    refine lv_icmp_le (tgt := 36) hx hb d_Coder_quoteByte_22 (by decide) (fun c_2 => ?_) (fun c_2 => ?_)
    · rw [if_pos c_2] at hF
      refine lv_iload_n hx hb d_Coder_quoteByte_36 rfl (lv_at hl 3 rfl) ?_
      refine lv_if_eq (tgt := 48) hx hb d_Coder_quoteByte_37 (by decide) (fun c_3 => ?_) (fun c_3 => ?_)
      · refine lv_aload_n hx hb d_Coder_quoteByte_48 rfl (lv_at hl 4 rfl) ?_
        refine lv_bipush (v := 61) hx hb d_Coder_quoteByte_49 (by decide) ?_
        refine g_Vv (As := [.int 61]) (rest := []) (wr := [(a0, .inr (1, [.ref x0_bits, .int v0_inLine]))]) ⟨hx, hb, hml, hown, hts⟩ (c_Row_put l D Z kI a1 b1 n1 H.size f1 l1 o1 61 hr1) (cw_Row_put hts k_794 ⟨Nat.le_of_ble_eq_true rfl, Nat.le_of_ble_eq_true rfl⟩) hK hZ hP hD hS hA [1, 2] [0] (g_recv hK hP (ci := 4) (q0 := 1) rfl rfl) rfl rfl (by decide) (by decide) (by decide) rfl hl.1 rfl (Nat.le_of_ble_eq_true rfl) d_Coder_quoteByte_51 ⟨Nat.zero_le _, Nat.zero_le _⟩ (fun u_4 H locs hw hP hD hS => ?_)
        obtain ⟨f1_4, l1_4, o1_4⟩ := u_4
        have e_4 := hw.1
        have hr1_4 := hw.2
        have hP : va_P D vwCl [(a0, .inr (1, [.ref x0_bits, .int v0_inLine])), (a1, .inr (4, [.ref b1, .int (nI l1_4.length), .int o1_4])), (b1, .inl (kI, n1, .inl f1_4))] H := hP
        have hD : va_D A [(a0, .inr (1, [.ref x0_bits, .int v0_inLine])), (a1, .inr (4, [.ref b1, .int (nI l1_4.length), .int o1_4])), (b1, .inl (kI, n1, .inl f1_4))] := hD
        rw [e_4] at hF; dsimp only at hF
        refine lv_aload_n hx hb d_Coder_quoteByte_54 rfl (lv_at hl 4 rfl) ?_
        refine lv_iload_n hx hb d_Coder_quoteByte_55 rfl (lv_at hl 2 rfl) ?_
        refine lv_iconst (v := 4) hx hb d_Coder_quoteByte_56 (by decide) ?_
        refine lv_ishr hx hb d_Coder_quoteByte_57 ?_
        refine g_Si (As := [.int (p1 >>> ((4 : Int32) &&& 31))]) (rest := [.ref a1]) (wr := [(a0, .inr (1, [.ref x0_bits, .int v0_inLine])), (a1, .inr (4, [.ref b1, .int (nI l1_4.length), .int o1_4])), (b1, .inl (kI, n1, .inl f1_4))]) ⟨hx, hb, hml, hown, hts⟩ (c_Letters_digitOf l D Z kI H.size (p1 >>> ((4 : Int32) &&& 31))) (cw_Letters_digitOf hts k_813 ⟨Nat.le_of_ble_eq_true rfl, Nat.le_of_ble_eq_true rfl⟩) hK hZ hP hD hS hA [] [0, 1, 2] rfl rfl (by decide) (by decide) (by decide) rfl hl.1 rfl (Nat.le_of_ble_eq_true rfl) d_Coder_quoteByte_58 ⟨Nat.zero_le _, Nat.zero_le _⟩ (fun r_5 u_5 H locs hw hP hD hS => ?_)
        have e_5 := hw
        subst e_5
        have hP : va_P D vwCl [(a0, .inr (1, [.ref x0_bits, .int v0_inLine])), (a1, .inr (4, [.ref b1, .int (nI l1_4.length), .int o1_4])), (b1, .inl (kI, n1, .inl f1_4))] H := hP
        have hD : va_D A [(a0, .inr (1, [.ref x0_bits, .int v0_inLine])), (a1, .inr (4, [.ref b1, .int (nI l1_4.length), .int o1_4])), (b1, .inl (kI, n1, .inl f1_4))] := hD
        refine g_Vv (As := [.int (m_Letters_digitOf (p1 >>> ((4 : Int32) &&& 31)))]) (rest := []) (wr := [(a0, .inr (1, [.ref x0_bits, .int v0_inLine]))]) ⟨hx, hb, hml, hown, hts⟩ (c_Row_put l D Z kI a1 b1 n1 H.size f1_4 l1_4 o1_4 (m_Letters_digitOf (p1 >>> ((4 : Int32) &&& 31))) hr1_4) (cw_Row_put hts k_794 ⟨Nat.le_of_ble_eq_true rfl, Nat.le_of_ble_eq_true rfl⟩) hK hZ hP hD hS hA [1, 2] [0] (g_recv hK hP (ci := 4) (q0 := 1) rfl rfl) rfl rfl (by decide) (by decide) (by decide) rfl hl.1 rfl (Nat.le_of_ble_eq_true rfl) d_Coder_quoteByte_61 ⟨Nat.zero_le _, Nat.zero_le _⟩ (fun u_6 H locs hw hP hD hS => ?_)
        obtain ⟨f1_6, l1_6, o1_6⟩ := u_6
        have e_6 := hw.1
        have hr1_6 := hw.2
        have hP : va_P D vwCl [(a0, .inr (1, [.ref x0_bits, .int v0_inLine])), (a1, .inr (4, [.ref b1, .int (nI l1_6.length), .int o1_6])), (b1, .inl (kI, n1, .inl f1_6))] H := hP
        have hD : va_D A [(a0, .inr (1, [.ref x0_bits, .int v0_inLine])), (a1, .inr (4, [.ref b1, .int (nI l1_6.length), .int o1_6])), (b1, .inl (kI, n1, .inl f1_6))] := hD
        rw [e_6] at hF; dsimp only at hF
        refine lv_aload_n hx hb d_Coder_quoteByte_64 rfl (lv_at hl 4 rfl) ?_
        refine lv_iload_n hx hb d_Coder_quoteByte_65 rfl (lv_at hl 2 rfl) ?_
        refine g_Si (As := [.int p1]) (rest := [.ref a1]) (wr := [(a0, .inr (1, [.ref x0_bits, .int v0_inLine])), (a1, .inr (4, [.ref b1, .int (nI l1_6.length), .int o1_6])), (b1, .inl (kI, n1, .inl f1_6))]) ⟨hx, hb, hml, hown, hts⟩ (c_Letters_digitOf l D Z kI H.size p1) (cw_Letters_digitOf hts k_813 ⟨Nat.le_of_ble_eq_true rfl, Nat.le_of_ble_eq_true rfl⟩) hK hZ hP hD hS hA [] [0, 1, 2] rfl rfl (by decide) (by decide) (by decide) rfl hl.1 rfl (Nat.le_of_ble_eq_true rfl) d_Coder_quoteByte_66 ⟨Nat.zero_le _, Nat.zero_le _⟩ (fun r_7 u_7 H locs hw hP hD hS => ?_)
        have e_7 := hw
        subst e_7
        have hP : va_P D vwCl [(a0, .inr (1, [.ref x0_bits, .int v0_inLine])), (a1, .inr (4, [.ref b1, .int (nI l1_6.length), .int o1_6])), (b1, .inl (kI, n1, .inl f1_6))] H := hP
        have hD : va_D A [(a0, .inr (1, [.ref x0_bits, .int v0_inLine])), (a1, .inr (4, [.ref b1, .int (nI l1_6.length), .int o1_6])), (b1, .inl (kI, n1, .inl f1_6))] := hD
        refine g_Vv (As := [.int (m_Letters_digitOf p1)]) (rest := []) (wr := [(a0, .inr (1, [.ref x0_bits, .int v0_inLine]))]) ⟨hx, hb, hml, hown, hts⟩ (c_Row_put l D Z kI a1 b1 n1 H.size f1_6 l1_6 o1_6 (m_Letters_digitOf p1) hr1_6) (cw_Row_put hts k_794 ⟨Nat.le_of_ble_eq_true rfl, Nat.le_of_ble_eq_true rfl⟩) hK hZ hP hD hS hA [1, 2] [0] (g_recv hK hP (ci := 4) (q0 := 1) rfl rfl) rfl rfl (by decide) (by decide) (by decide) rfl hl.1 rfl (Nat.le_of_ble_eq_true rfl) d_Coder_quoteByte_69 ⟨Nat.zero_le _, Nat.zero_le _⟩ (fun u_8 H locs hw hP hD hS => ?_)
        obtain ⟨f1_8, l1_8, o1_8⟩ := u_8
        have e_8 := hw.1
        have hr1_8 := hw.2
        have hP : va_P D vwCl [(a0, .inr (1, [.ref x0_bits, .int v0_inLine])), (a1, .inr (4, [.ref b1, .int (nI l1_8.length), .int o1_8])), (b1, .inl (kI, n1, .inl f1_8))] H := hP
        have hD : va_D A [(a0, .inr (1, [.ref x0_bits, .int v0_inLine])), (a1, .inr (4, [.ref b1, .int (nI l1_8.length), .int o1_8])), (b1, .inl (kI, n1, .inl f1_8))] := hD
        rw [e_8] at hF; dsimp only at hF
        refine lv_aload_n hx hb d_Coder_quoteByte_72 rfl (lv_at hl 1 rfl) ?_
        refine lv_dup hx hb d_Coder_quoteByte_73 rfl ?_
        refine va_get (D := D) (ci := 1) (v := .int v0_inLine) (C := "MailCharacters$Coder") (T := F_Coder) (N := 2) hx hb hts i_Coder hown hK hP 0 rfl rfl 1 (by decide) (hts _ k_176) (fun _ h9 => h9) rfl d_Coder_quoteByte_74 ?_
        refine lv_iload hx hb d_Coder_quoteByte_77 (lv_at hl 0 rfl) ?_
        refine lv_iadd hx hb d_Coder_quoteByte_79 ?_
        refine va_put (D := D) (ci := 1) (v := .int (v0_inLine + 3)) (ty := .int) (C := "MailCharacters$Coder") (T := F_Coder) (N := 2) hx hb hts i_Coder t_Coder t_Coder_ok n_Coder hown hK hP hD hS 0 rfl rfl 1 (by decide) (hts _ k_176) (fun _ h9 => h9) rfl (by decide +kernel) rfl rfl (Nat.le_of_ble_eq_true rfl) d_Coder_quoteByte_80 (fun H locs hP hD hS => ?_)
        have hP : va_P D vwCl [(a0, .inr (1, [.ref x0_bits, .int (v0_inLine + 3)])), (a1, .inr (4, [.ref b1, .int (nI l1_8.length), .int o1_8])), (b1, .inl (kI, n1, .inl f1_8))] H := hP
        have hD : va_D A [(a0, .inr (1, [.ref x0_bits, .int (v0_inLine + 3)])), (a1, .inr (4, [.ref b1, .int (nI l1_8.length), .int o1_8])), (b1, .inl (kI, n1, .inl f1_8))] := hD
        exact hret ((v0_inLine + 3), f1_8, l1_8, o1_8) _ _ _ _ d_Coder_quoteByte_83 (⟨hRES.symm.trans hF, hr1_8⟩) hP hD hS
      · exact absurd c_1 c_3
    · rw [if_neg c_2] at hF
      refine lv_aload_n hx hb d_Coder_quoteByte_25 rfl (lv_at hl 4 rfl) ?_
      refine lv_bipush (v := 61) hx hb d_Coder_quoteByte_26 (by decide) ?_
      refine g_Vv (As := [.int 61]) (rest := []) (wr := [(a0, .inr (1, [.ref x0_bits, .int v0_inLine]))]) ⟨hx, hb, hml, hown, hts⟩ (c_Row_put l D Z kI a1 b1 n1 H.size f1 l1 o1 61 hr1) (cw_Row_put hts k_794 ⟨Nat.le_of_ble_eq_true rfl, Nat.le_of_ble_eq_true rfl⟩) hK hZ hP hD hS hA [1, 2] [0] (g_recv hK hP (ci := 4) (q0 := 1) rfl rfl) rfl rfl (by decide) (by decide) (by decide) rfl hl.1 rfl (Nat.le_of_ble_eq_true rfl) d_Coder_quoteByte_28 ⟨Nat.zero_le _, Nat.zero_le _⟩ (fun u_9 H locs hw hP hD hS => ?_)
      obtain ⟨f1_9, l1_9, o1_9⟩ := u_9
      have e_9 := hw.1
      have hr1_9 := hw.2
      have hP : va_P D vwCl [(a0, .inr (1, [.ref x0_bits, .int v0_inLine])), (a1, .inr (4, [.ref b1, .int (nI l1_9.length), .int o1_9])), (b1, .inl (kI, n1, .inl f1_9))] H := hP
      have hD : va_D A [(a0, .inr (1, [.ref x0_bits, .int v0_inLine])), (a1, .inr (4, [.ref b1, .int (nI l1_9.length), .int o1_9])), (b1, .inl (kI, n1, .inl f1_9))] := hD
      rw [e_9] at hF; dsimp only at hF
      refine lv_aload_n hx hb d_Coder_quoteByte_31 rfl (lv_at hl 1 rfl) ?_
      refine lv_aload_n hx hb d_Coder_quoteByte_32 rfl (lv_at hl 4 rfl) ?_
      refine g_Vv (As := [.ref a1]) (rest := []) (wr := []) ⟨hx, hb, hml, hown, hts⟩ (c_Coder_endLine l D Z kI a1 b1 n1 a0 x0_bits H.size f1_9 l1_9 o1_9 v0_inLine hr1_9) (cw_Coder_endLine hts k_790 ⟨Nat.le_of_ble_eq_true rfl, Nat.le_of_ble_eq_true rfl⟩) hK hZ hP hD hS hA [1, 2, 0] [] (g_recv hK hP (ci := 1) (q0 := 0) rfl rfl) rfl rfl (by decide) (by decide) (by decide) rfl hl.1 rfl (Nat.le_of_ble_eq_true rfl) d_Coder_quoteByte_33 ⟨Nat.zero_le _, Nat.zero_le _⟩ (fun u_10 H locs hw hP hD hS => ?_)
      obtain ⟨f1_10, l1_10, o1_10, v0_inLine_10⟩ := u_10
      have e_10 := hw.1
      have hr1_10 := hw.2
      have hP : va_P D vwCl [(a1, .inr (4, [.ref b1, .int (nI l1_10.length), .int o1_10])), (b1, .inl (kI, n1, .inl f1_10)), (a0, .inr (1, [.ref x0_bits, .int v0_inLine_10]))] H := hP
      have hD : va_D A [(a1, .inr (4, [.ref b1, .int (nI l1_10.length), .int o1_10])), (b1, .inl (kI, n1, .inl f1_10)), (a0, .inr (1, [.ref x0_bits, .int v0_inLine_10]))] := hD
      rw [e_10] at hF; dsimp only at hF
      refine lv_iload_n hx hb d_Coder_quoteByte_36 rfl (lv_at hl 3 rfl) ?_
      refine lv_if_eq (tgt := 48) hx hb d_Coder_quoteByte_37 (by decide) (fun c_11 => ?_) (fun c_11 => ?_)
      · refine lv_aload_n hx hb d_Coder_quoteByte_48 rfl (lv_at hl 4 rfl) ?_
        refine lv_bipush (v := 61) hx hb d_Coder_quoteByte_49 (by decide) ?_
        refine g_Vv (As := [.int 61]) (rest := []) (wr := [(a0, .inr (1, [.ref x0_bits, .int v0_inLine_10]))]) ⟨hx, hb, hml, hown, hts⟩ (c_Row_put l D Z kI a1 b1 n1 H.size f1_10 l1_10 o1_10 61 hr1_10) (cw_Row_put hts k_794 ⟨Nat.le_of_ble_eq_true rfl, Nat.le_of_ble_eq_true rfl⟩) hK hZ hP hD hS hA [0, 1] [2] (g_recv hK hP (ci := 4) (q0 := 0) rfl rfl) rfl rfl (by decide) (by decide) (by decide) rfl hl.1 rfl (Nat.le_of_ble_eq_true rfl) d_Coder_quoteByte_51 ⟨Nat.zero_le _, Nat.zero_le _⟩ (fun u_12 H locs hw hP hD hS => ?_)
        obtain ⟨f0_12, l0_12, o0_12⟩ := u_12
        have e_12 := hw.1
        have hr0_12 := hw.2
        have hP : va_P D vwCl [(a0, .inr (1, [.ref x0_bits, .int v0_inLine_10])), (a1, .inr (4, [.ref b1, .int (nI l0_12.length), .int o0_12])), (b1, .inl (kI, n1, .inl f0_12))] H := hP
        have hD : va_D A [(a0, .inr (1, [.ref x0_bits, .int v0_inLine_10])), (a1, .inr (4, [.ref b1, .int (nI l0_12.length), .int o0_12])), (b1, .inl (kI, n1, .inl f0_12))] := hD
        rw [e_12] at hF; dsimp only at hF
        refine lv_aload_n hx hb d_Coder_quoteByte_54 rfl (lv_at hl 4 rfl) ?_
        refine lv_iload_n hx hb d_Coder_quoteByte_55 rfl (lv_at hl 2 rfl) ?_
        refine lv_iconst (v := 4) hx hb d_Coder_quoteByte_56 (by decide) ?_
        refine lv_ishr hx hb d_Coder_quoteByte_57 ?_
        refine g_Si (As := [.int (p1 >>> ((4 : Int32) &&& 31))]) (rest := [.ref a1]) (wr := [(a0, .inr (1, [.ref x0_bits, .int v0_inLine_10])), (a1, .inr (4, [.ref b1, .int (nI l0_12.length), .int o0_12])), (b1, .inl (kI, n1, .inl f0_12))]) ⟨hx, hb, hml, hown, hts⟩ (c_Letters_digitOf l D Z kI H.size (p1 >>> ((4 : Int32) &&& 31))) (cw_Letters_digitOf hts k_813 ⟨Nat.le_of_ble_eq_true rfl, Nat.le_of_ble_eq_true rfl⟩) hK hZ hP hD hS hA [] [0, 1, 2] rfl rfl (by decide) (by decide) (by decide) rfl hl.1 rfl (Nat.le_of_ble_eq_true rfl) d_Coder_quoteByte_58 ⟨Nat.zero_le _, Nat.zero_le _⟩ (fun r_13 u_13 H locs hw hP hD hS => ?_)
        have e_13 := hw
        subst e_13
        have hP : va_P D vwCl [(a0, .inr (1, [.ref x0_bits, .int v0_inLine_10])), (a1, .inr (4, [.ref b1, .int (nI l0_12.length), .int o0_12])), (b1, .inl (kI, n1, .inl f0_12))] H := hP
        have hD : va_D A [(a0, .inr (1, [.ref x0_bits, .int v0_inLine_10])), (a1, .inr (4, [.ref b1, .int (nI l0_12.length), .int o0_12])), (b1, .inl (kI, n1, .inl f0_12))] := hD
        refine g_Vv (As := [.int (m_Letters_digitOf (p1 >>> ((4 : Int32) &&& 31)))]) (rest := []) (wr := [(a0, .inr (1, [.ref x0_bits, .int v0_inLine_10]))]) ⟨hx, hb, hml, hown, hts⟩ (c_Row_put l D Z kI a1 b1 n1 H.size f0_12 l0_12 o0_12 (m_Letters_digitOf (p1 >>> ((4 : Int32) &&& 31))) hr0_12) (cw_Row_put hts k_794 ⟨Nat.le_of_ble_eq_true rfl, Nat.le_of_ble_eq_true rfl⟩) hK hZ hP hD hS hA [1, 2] [0] (g_recv hK hP (ci := 4) (q0 := 1) rfl rfl) rfl rfl (by decide) (by decide) (by decide) rfl hl.1 rfl (Nat.le_of_ble_eq_true rfl) d_Coder_quoteByte_61 ⟨Nat.zero_le _, Nat.zero_le _⟩ (fun u_14 H locs hw hP hD hS => ?_)
        obtain ⟨f1_14, l1_14, o1_14⟩ := u_14
        have e_14 := hw.1
        have hr1_14 := hw.2
        have hP : va_P D vwCl [(a0, .inr (1, [.ref x0_bits, .int v0_inLine_10])), (a1, .inr (4, [.ref b1, .int (nI l1_14.length), .int o1_14])), (b1, .inl (kI, n1, .inl f1_14))] H := hP
        have hD : va_D A [(a0, .inr (1, [.ref x0_bits, .int v0_inLine_10])), (a1, .inr (4, [.ref b1, .int (nI l1_14.length), .int o1_14])), (b1, .inl (kI, n1, .inl f1_14))] := hD
        rw [e_14] at hF; dsimp only at hF
        refine lv_aload_n hx hb d_Coder_quoteByte_64 rfl (lv_at hl 4 rfl) ?_
        refine lv_iload_n hx hb d_Coder_quoteByte_65 rfl (lv_at hl 2 rfl) ?_
        refine g_Si (As := [.int p1]) (rest := [.ref a1]) (wr := [(a0, .inr (1, [.ref x0_bits, .int v0_inLine_10])), (a1, .inr (4, [.ref b1, .int (nI l1_14.length), .int o1_14])), (b1, .inl (kI, n1, .inl f1_14))]) ⟨hx, hb, hml, hown, hts⟩ (c_Letters_digitOf l D Z kI H.size p1) (cw_Letters_digitOf hts k_813 ⟨Nat.le_of_ble_eq_true rfl, Nat.le_of_ble_eq_true rfl⟩) hK hZ hP hD hS hA [] [0, 1, 2] rfl rfl (by decide) (by decide) (by decide) rfl hl.1 rfl (Nat.le_of_ble_eq_true rfl) d_Coder_quoteByte_66 ⟨Nat.zero_le _, Nat.zero_le _⟩ (fun r_15 u_15 H locs hw hP hD hS => ?_)
        have e_15 := hw
        subst e_15
        have hP : va_P D vwCl [(a0, .inr (1, [.ref x0_bits, .int v0_inLine_10])), (a1, .inr (4, [.ref b1, .int (nI l1_14.length), .int o1_14])), (b1, .inl (kI, n1, .inl f1_14))] H := hP
        have hD : va_D A [(a0, .inr (1, [.ref x0_bits, .int v0_inLine_10])), (a1, .inr (4, [.ref b1, .int (nI l1_14.length), .int o1_14])), (b1, .inl (kI, n1, .inl f1_14))] := hD
        refine g_Vv (As := [.int (m_Letters_digitOf p1)]) (rest := []) (wr := [(a0, .inr (1, [.ref x0_bits, .int v0_inLine_10]))]) ⟨hx, hb, hml, hown, hts⟩ (c_Row_put l D Z kI a1 b1 n1 H.size f1_14 l1_14 o1_14 (m_Letters_digitOf p1) hr1_14) (cw_Row_put hts k_794 ⟨Nat.le_of_ble_eq_true rfl, Nat.le_of_ble_eq_true rfl⟩) hK hZ hP hD hS hA [1, 2] [0] (g_recv hK hP (ci := 4) (q0 := 1) rfl rfl) rfl rfl (by decide) (by decide) (by decide) rfl hl.1 rfl (Nat.le_of_ble_eq_true rfl) d_Coder_quoteByte_69 ⟨Nat.zero_le _, Nat.zero_le _⟩ (fun u_16 H locs hw hP hD hS => ?_)
        obtain ⟨f1_16, l1_16, o1_16⟩ := u_16
        have e_16 := hw.1
        have hr1_16 := hw.2
        have hP : va_P D vwCl [(a0, .inr (1, [.ref x0_bits, .int v0_inLine_10])), (a1, .inr (4, [.ref b1, .int (nI l1_16.length), .int o1_16])), (b1, .inl (kI, n1, .inl f1_16))] H := hP
        have hD : va_D A [(a0, .inr (1, [.ref x0_bits, .int v0_inLine_10])), (a1, .inr (4, [.ref b1, .int (nI l1_16.length), .int o1_16])), (b1, .inl (kI, n1, .inl f1_16))] := hD
        rw [e_16] at hF; dsimp only at hF
        refine lv_aload_n hx hb d_Coder_quoteByte_72 rfl (lv_at hl 1 rfl) ?_
        refine lv_dup hx hb d_Coder_quoteByte_73 rfl ?_
        refine va_get (D := D) (ci := 1) (v := .int v0_inLine_10) (C := "MailCharacters$Coder") (T := F_Coder) (N := 2) hx hb hts i_Coder hown hK hP 0 rfl rfl 1 (by decide) (hts _ k_176) (fun _ h9 => h9) rfl d_Coder_quoteByte_74 ?_
        refine lv_iload hx hb d_Coder_quoteByte_77 (lv_at hl 0 rfl) ?_
        refine lv_iadd hx hb d_Coder_quoteByte_79 ?_
        refine va_put (D := D) (ci := 1) (v := .int (v0_inLine_10 + 3)) (ty := .int) (C := "MailCharacters$Coder") (T := F_Coder) (N := 2) hx hb hts i_Coder t_Coder t_Coder_ok n_Coder hown hK hP hD hS 0 rfl rfl 1 (by decide) (hts _ k_176) (fun _ h9 => h9) rfl (by decide +kernel) rfl rfl (Nat.le_of_ble_eq_true rfl) d_Coder_quoteByte_80 (fun H locs hP hD hS => ?_)
        have hP : va_P D vwCl [(a0, .inr (1, [.ref x0_bits, .int (v0_inLine_10 + 3)])), (a1, .inr (4, [.ref b1, .int (nI l1_16.length), .int o1_16])), (b1, .inl (kI, n1, .inl f1_16))] H := hP
        have hD : va_D A [(a0, .inr (1, [.ref x0_bits, .int (v0_inLine_10 + 3)])), (a1, .inr (4, [.ref b1, .int (nI l1_16.length), .int o1_16])), (b1, .inl (kI, n1, .inl f1_16))] := hD
        exact hret ((v0_inLine_10 + 3), f1_16, l1_16, o1_16) _ _ _ _ d_Coder_quoteByte_83 (⟨hRES.symm.trans hF, hr1_16⟩) hP hD hS
      · exact absurd c_1 c_11
  · rw [if_neg c_1] at hF
    refine lv_iconst (v := 1) hx hb d_Coder_quoteByte_4 (by decide) ?_
    refine lv_goto (tgt := 9) hx hb d_Coder_quoteByte_5 (by decide) ?_
    refine lv_istore (lv' := [(4, .int 1), (0, .ref a0), (1, .int p1), (2, .int p2), (3, .ref a1)]) hx hb d_Coder_quoteByte_9 hl (by decide) rfl (fun ls hl => ?_)
    refine lv_aload_n hx hb d_Coder_quoteByte_11 rfl (lv_at hl 1 rfl) ?_
    refine va_get (D := D) (ci := 1) (v := .int v0_inLine) (C := "MailCharacters$Coder") (T := F_Coder) (N := 2) hx hb hts i_Coder hown hK hP 0 rfl rfl 1 (by decide) (hts _ k_176) (fun _ h9 => h9) rfl d_Coder_quoteByte_12 ?_
    refine lv_iload hx hb d_Coder_quoteByte_15 (lv_at hl 0 rfl) ?_
    refine lv_iadd hx hb d_Coder_quoteByte_17 ?_
    refine lv_iconst (v := 1) hx hb d_Coder_quoteByte_18 (by decide) ?_
    refine lv_iadd hx hb d_Coder_quoteByte_19 ?_
    refine lv_bipush (v := 76) hx hb d_Coder_quoteByte_20 (by decide) ?_
    refine lv_icmp_le (tgt := 36) hx hb d_Coder_quoteByte_22 (by decide) (fun c_17 => ?_) (fun c_17 => ?_)
    · rw [if_pos c_17] at hF
      refine lv_iload_n hx hb d_Coder_quoteByte_36 rfl (lv_at hl 3 rfl) ?_
      refine lv_if_eq (tgt := 48) hx hb d_Coder_quoteByte_37 (by decide) (fun c_18 => ?_) (fun c_18 => ?_)
      · exact absurd c_18 c_1
      · refine lv_aload_n hx hb d_Coder_quoteByte_40 rfl (lv_at hl 4 rfl) ?_
        refine lv_iload_n hx hb d_Coder_quoteByte_41 rfl (lv_at hl 2 rfl) ?_
        refine g_Vv (As := [.int p1]) (rest := []) (wr := [(a0, .inr (1, [.ref x0_bits, .int v0_inLine]))]) ⟨hx, hb, hml, hown, hts⟩ (c_Row_put l D Z kI a1 b1 n1 H.size f1 l1 o1 p1 hr1) (cw_Row_put hts k_794 ⟨Nat.le_of_ble_eq_true rfl, Nat.le_of_ble_eq_true rfl⟩) hK hZ hP hD hS hA [1, 2] [0] (g_recv hK hP (ci := 4) (q0 := 1) rfl rfl) rfl rfl (by decide) (by decide) (by decide) rfl hl.1 rfl (Nat.le_of_ble_eq_true rfl) d_Coder_quoteByte_42 ⟨Nat.zero_le _, Nat.zero_le _⟩ (fun u_19 H locs hw hP hD hS => ?_)
        obtain ⟨f1_19, l1_19, o1_19⟩ := u_19
        have e_19 := hw.1
        have hr1_19 := hw.2
        have hP : va_P D vwCl [(a0, .inr (1, [.ref x0_bits, .int v0_inLine])), (a1, .inr (4, [.ref b1, .int (nI l1_19.length), .int o1_19])), (b1, .inl (kI, n1, .inl f1_19))] H := hP
        have hD : va_D A [(a0, .inr (1, [.ref x0_bits, .int v0_inLine])), (a1, .inr (4, [.ref b1, .int (nI l1_19.length), .int o1_19])), (b1, .inl (kI, n1, .inl f1_19))] := hD
        rw [e_19] at hF; dsimp only at hF
        refine lv_goto (tgt := 72) hx hb d_Coder_quoteByte_45 (by decide) ?_
        refine lv_aload_n hx hb d_Coder_quoteByte_72 rfl (lv_at hl 1 rfl) ?_
        refine lv_dup hx hb d_Coder_quoteByte_73 rfl ?_
        refine va_get (D := D) (ci := 1) (v := .int v0_inLine) (C := "MailCharacters$Coder") (T := F_Coder) (N := 2) hx hb hts i_Coder hown hK hP 0 rfl rfl 1 (by decide) (hts _ k_176) (fun _ h9 => h9) rfl d_Coder_quoteByte_74 ?_
        refine lv_iload hx hb d_Coder_quoteByte_77 (lv_at hl 0 rfl) ?_
        refine lv_iadd hx hb d_Coder_quoteByte_79 ?_
        refine va_put (D := D) (ci := 1) (v := .int (v0_inLine + 1)) (ty := .int) (C := "MailCharacters$Coder") (T := F_Coder) (N := 2) hx hb hts i_Coder t_Coder t_Coder_ok n_Coder hown hK hP hD hS 0 rfl rfl 1 (by decide) (hts _ k_176) (fun _ h9 => h9) rfl (by decide +kernel) rfl rfl (Nat.le_of_ble_eq_true rfl) d_Coder_quoteByte_80 (fun H locs hP hD hS => ?_)
        have hP : va_P D vwCl [(a0, .inr (1, [.ref x0_bits, .int (v0_inLine + 1)])), (a1, .inr (4, [.ref b1, .int (nI l1_19.length), .int o1_19])), (b1, .inl (kI, n1, .inl f1_19))] H := hP
        have hD : va_D A [(a0, .inr (1, [.ref x0_bits, .int (v0_inLine + 1)])), (a1, .inr (4, [.ref b1, .int (nI l1_19.length), .int o1_19])), (b1, .inl (kI, n1, .inl f1_19))] := hD
        exact hret ((v0_inLine + 1), f1_19, l1_19, o1_19) _ _ _ _ d_Coder_quoteByte_83 (⟨hRES.symm.trans hF, hr1_19⟩) hP hD hS
    · rw [if_neg c_17] at hF
      refine lv_aload_n hx hb d_Coder_quoteByte_25 rfl (lv_at hl 4 rfl) ?_
      refine lv_bipush (v := 61) hx hb d_Coder_quoteByte_26 (by decide) ?_
      refine g_Vv (As := [.int 61]) (rest := []) (wr := [(a0, .inr (1, [.ref x0_bits, .int v0_inLine]))]) ⟨hx, hb, hml, hown, hts⟩ (c_Row_put l D Z kI a1 b1 n1 H.size f1 l1 o1 61 hr1) (cw_Row_put hts k_794 ⟨Nat.le_of_ble_eq_true rfl, Nat.le_of_ble_eq_true rfl⟩) hK hZ hP hD hS hA [1, 2] [0] (g_recv hK hP (ci := 4) (q0 := 1) rfl rfl) rfl rfl (by decide) (by decide) (by decide) rfl hl.1 rfl (Nat.le_of_ble_eq_true rfl) d_Coder_quoteByte_28 ⟨Nat.zero_le _, Nat.zero_le _⟩ (fun u_20 H locs hw hP hD hS => ?_)
      obtain ⟨f1_20, l1_20, o1_20⟩ := u_20
      have e_20 := hw.1
      have hr1_20 := hw.2
      have hP : va_P D vwCl [(a0, .inr (1, [.ref x0_bits, .int v0_inLine])), (a1, .inr (4, [.ref b1, .int (nI l1_20.length), .int o1_20])), (b1, .inl (kI, n1, .inl f1_20))] H := hP
      have hD : va_D A [(a0, .inr (1, [.ref x0_bits, .int v0_inLine])), (a1, .inr (4, [.ref b1, .int (nI l1_20.length), .int o1_20])), (b1, .inl (kI, n1, .inl f1_20))] := hD
      rw [e_20] at hF; dsimp only at hF
      refine lv_aload_n hx hb d_Coder_quoteByte_31 rfl (lv_at hl 1 rfl) ?_
      refine lv_aload_n hx hb d_Coder_quoteByte_32 rfl (lv_at hl 4 rfl) ?_
      refine g_Vv (As := [.ref a1]) (rest := []) (wr := []) ⟨hx, hb, hml, hown, hts⟩ (c_Coder_endLine l D Z kI a1 b1 n1 a0 x0_bits H.size f1_20 l1_20 o1_20 v0_inLine hr1_20) (cw_Coder_endLine hts k_790 ⟨Nat.le_of_ble_eq_true rfl, Nat.le_of_ble_eq_true rfl⟩) hK hZ hP hD hS hA [1, 2, 0] [] (g_recv hK hP (ci := 1) (q0 := 0) rfl rfl) rfl rfl (by decide) (by decide) (by decide) rfl hl.1 rfl (Nat.le_of_ble_eq_true rfl) d_Coder_quoteByte_33 ⟨Nat.zero_le _, Nat.zero_le _⟩ (fun u_21 H locs hw hP hD hS => ?_)
      obtain ⟨f1_21, l1_21, o1_21, v0_inLine_21⟩ := u_21
      have e_21 := hw.1
      have hr1_21 := hw.2
      have hP : va_P D vwCl [(a1, .inr (4, [.ref b1, .int (nI l1_21.length), .int o1_21])), (b1, .inl (kI, n1, .inl f1_21)), (a0, .inr (1, [.ref x0_bits, .int v0_inLine_21]))] H := hP
      have hD : va_D A [(a1, .inr (4, [.ref b1, .int (nI l1_21.length), .int o1_21])), (b1, .inl (kI, n1, .inl f1_21)), (a0, .inr (1, [.ref x0_bits, .int v0_inLine_21]))] := hD
      rw [e_21] at hF; dsimp only at hF
      refine lv_iload_n hx hb d_Coder_quoteByte_36 rfl (lv_at hl 3 rfl) ?_
      refine lv_if_eq (tgt := 48) hx hb d_Coder_quoteByte_37 (by decide) (fun c_22 => ?_) (fun c_22 => ?_)
      · exact absurd c_22 c_1
      · refine lv_aload_n hx hb d_Coder_quoteByte_40 rfl (lv_at hl 4 rfl) ?_
        refine lv_iload_n hx hb d_Coder_quoteByte_41 rfl (lv_at hl 2 rfl) ?_
        refine g_Vv (As := [.int p1]) (rest := []) (wr := [(a0, .inr (1, [.ref x0_bits, .int v0_inLine_21]))]) ⟨hx, hb, hml, hown, hts⟩ (c_Row_put l D Z kI a1 b1 n1 H.size f1_21 l1_21 o1_21 p1 hr1_21) (cw_Row_put hts k_794 ⟨Nat.le_of_ble_eq_true rfl, Nat.le_of_ble_eq_true rfl⟩) hK hZ hP hD hS hA [0, 1] [2] (g_recv hK hP (ci := 4) (q0 := 0) rfl rfl) rfl rfl (by decide) (by decide) (by decide) rfl hl.1 rfl (Nat.le_of_ble_eq_true rfl) d_Coder_quoteByte_42 ⟨Nat.zero_le _, Nat.zero_le _⟩ (fun u_23 H locs hw hP hD hS => ?_)
        obtain ⟨f0_23, l0_23, o0_23⟩ := u_23
        have e_23 := hw.1
        have hr0_23 := hw.2
        have hP : va_P D vwCl [(a0, .inr (1, [.ref x0_bits, .int v0_inLine_21])), (a1, .inr (4, [.ref b1, .int (nI l0_23.length), .int o0_23])), (b1, .inl (kI, n1, .inl f0_23))] H := hP
        have hD : va_D A [(a0, .inr (1, [.ref x0_bits, .int v0_inLine_21])), (a1, .inr (4, [.ref b1, .int (nI l0_23.length), .int o0_23])), (b1, .inl (kI, n1, .inl f0_23))] := hD
        rw [e_23] at hF; dsimp only at hF
        refine lv_goto (tgt := 72) hx hb d_Coder_quoteByte_45 (by decide) ?_
        refine lv_aload_n hx hb d_Coder_quoteByte_72 rfl (lv_at hl 1 rfl) ?_
        refine lv_dup hx hb d_Coder_quoteByte_73 rfl ?_
        refine va_get (D := D) (ci := 1) (v := .int v0_inLine_21) (C := "MailCharacters$Coder") (T := F_Coder) (N := 2) hx hb hts i_Coder hown hK hP 0 rfl rfl 1 (by decide) (hts _ k_176) (fun _ h9 => h9) rfl d_Coder_quoteByte_74 ?_
        refine lv_iload hx hb d_Coder_quoteByte_77 (lv_at hl 0 rfl) ?_
        refine lv_iadd hx hb d_Coder_quoteByte_79 ?_
        refine va_put (D := D) (ci := 1) (v := .int (v0_inLine_21 + 1)) (ty := .int) (C := "MailCharacters$Coder") (T := F_Coder) (N := 2) hx hb hts i_Coder t_Coder t_Coder_ok n_Coder hown hK hP hD hS 0 rfl rfl 1 (by decide) (hts _ k_176) (fun _ h9 => h9) rfl (by decide +kernel) rfl rfl (Nat.le_of_ble_eq_true rfl) d_Coder_quoteByte_80 (fun H locs hP hD hS => ?_)
        have hP : va_P D vwCl [(a0, .inr (1, [.ref x0_bits, .int (v0_inLine_21 + 1)])), (a1, .inr (4, [.ref b1, .int (nI l0_23.length), .int o0_23])), (b1, .inl (kI, n1, .inl f0_23))] H := hP
        have hD : va_D A [(a0, .inr (1, [.ref x0_bits, .int (v0_inLine_21 + 1)])), (a1, .inr (4, [.ref b1, .int (nI l0_23.length), .int o0_23])), (b1, .inl (kI, n1, .inl f0_23))] := hD
        exact hret ((v0_inLine_21 + 1), f0_23, l0_23, o0_23) _ _ _ _ d_Coder_quoteByte_83 (⟨hRES.symm.trans hF, hr0_23⟩) hP hD hS
theorem cw_Coder_quoteByte {R : Room} {s : State} {args : Array Value} {own : String} {idx : Nat} (hts : ∀ w ∈ gW, w.before args s = true) (hl : Cond.methodLink own idx y_Coder_quoteByte ∈ gW) (hR : rm_Coder_quoteByte.frames + 1 ≤ R.frames ∧ 8 + (5 + 11) + rm_Coder_quoteByte.locals ≤ R.locals) : CallW R s args own "MailCharacters$Coder" idx y_Coder_quoteByte b_Coder_quoteByte 5 none w_Coder_quoteByte rm_Coder_quoteByte 0 0 3 := cwV 3 hts (gW_V hl k_811 k_23 k_73 k_812) rfl rfl rfl (by decide +kernel) hR
def m_Names_isOneOf_l6 (s3 : Nat) : Nat → Int32 → Int32 → Int32 → Int32 → List Int32 → Int32
  | 0, _, _, _, _, _ => 0
  | nf6 + 1, i1, i2, i4, i5, l0 =>
    if (m_String_length s3) ≤ i5 then
      0
    else
      if (m_String_charAt s3 i5) = 32 then
        if (i2 - i1) = (i5 - i4) then
          if (m_Names_goesOnAs l0 i1 s3 i4 i5) = 0 then
            m_Names_isOneOf_l6 s3 nf6 i1 i2 (i5 + 1) (i5 + 1) l0
          else
            1
        else
          m_Names_isOneOf_l6 s3 nf6 i1 i2 (i5 + 1) (i5 + 1) l0
      else
        m_Names_isOneOf_l6 s3 nf6 i1 i2 i4 (i5 + 1) l0
def m_Names_isOneOf (l0 : List Int32) (p1 : Int32) (p2 : Int32) (s3 : Nat) : Int32 :=
  m_Names_isOneOf_l6 s3 (((m_String_length s3).toInt - (0 : Int32).toInt).toNat + 1) p1 p2 0 0 l0
def rm_Names_isOneOf : Room := { frames := 5, cells := 0, slots := 0, locals := 110 }
set_option maxHeartbeats 4000000 in
set_option maxRecDepth 100000 in
theorem c_Names_isOneOf (l : Launch) (D : va_G) (Z : gZT) (kI : ClassId) (a0 : Nat) (b0 : Nat) (n0 : Nat) (sz : Nat) (f0 : Nat → Int32) (l0 : List Int32) (o0 : Int32) (p1 : Int32) (p2 : Int32) (s3 : Nat) (hr0 : g_rw n0 f0 l0) (hs3 : s3 < gnS) : gMi l y_Names_isOneOf w_Names_isOneOf rm_Names_isOneOf D Z kI [.ref a0, .int p1, .int p2, .ref (Z.1 s3)] sz [(a0, .inr (4, [.ref b0, .int (nI l0.length), .int o0])), (b0, .inl (kI, n0, .inl f0))] (fun (r : Int32) (_u : Unit) => m_Names_isOneOf l0 p1 p2 s3 = r) (fun (_u : Unit) => ([(a0, .inr (4, [.ref b0, .int (nI l0.length), .int o0])), (b0, .inl (kI, n0, .inl f0))] : va_W)) := by
  refine g_ofi (cc := b_Names_isOneOf) (maxL := 6) (ty := .boolean) (by decide) rfl (Nat.le_of_ble_eq_true rfl) ?_
  intro p e s m below meth c A Q H ls hx hb hml hown hts hA hK hZ hP hD hS hl hret
  have hown : s.vm.findClass "MailCharacters$Names" = some m.cls := hown
  have hl : lv_has ls 6 [(0, .ref a0), (1, .int p1), (2, .int p2), (3, .ref (Z.1 s3))] := hl
  obtain ⟨RES, hRES⟩ : ∃ z, z = m_Names_isOneOf l0 p1 p2 s3 := ⟨_, rfl⟩
  have lp6 : ∀ (nf6 : Nat) (i1 : Int32) (i2 : Int32) (i4 : Int32) (i5 : Int32) (H : Heap) (locs : List Loc) (ls : Array Slot), ¬ i4 < 0 → ¬ i5 < 0 → ((m_String_length s3).toInt - i5.toInt).toNat < nf6 → RES = m_Names_isOneOf_l6 s3 nf6 i1 i2 i4 i5 l0 → va_P D vwCl [(a0, .inr (4, [.ref b0, .int (nI l0.length), .int o0])), (b0, .inl (kI, n0, .inl f0))] H → va_D A [(a0, .inr (4, [.ref b0, .int (nI l0.length), .int o0])), (b0, .inl (kI, n0, .inl f0))] → va_S A s.heap H locs → lv_has ls 6 [(0, .ref a0), (1, .int i1), (2, .int i2), (3, .ref (Z.1 s3)), (4, .int i4), (5, .int i5)] → W p l e rm_Names_isOneOf s m ([.ref a0, .int p1, .int p2, .ref (Z.1 s3)] : List Value).toArray below meth c H locs 0 0 Q (F0 m 6 ls []) := by
    intro nf6
    induction nf6 with
    | zero => intro i1 i2 i4 i5 H locs ls hi6_0 hi6_1 hn6; exact absurd hn6 (Nat.not_lt_zero _)
    | succ nf6 ih6 =>
      intro i1 i2 i4 i5 H locs ls hi6_0 hi6_1 hn6 hF hP hD hS hl
      rw [m_Names_isOneOf_l6] at hF
      refine lv_iload hx hb d_Names_isOneOf_6 (lv_at hl 5 rfl) ?_
      refine lv_aload_n hx hb d_Names_isOneOf_8 rfl (lv_at hl 3 rfl) ?_
      refine g_Vi (As := []) (rest := [.int i5]) (wr := [(a0, .inr (4, [.ref b0, .int (nI l0.length), .int o0])), (b0, .inl (kI, n0, .inl f0))]) ⟨hx, hb, hml, hown, hts⟩ (c_String_length l D Z kI H.size s3 hs3) (cw_String_length hts k_309 ⟨Nat.le_of_ble_eq_true rfl, Nat.le_of_ble_eq_true rfl⟩) hK hZ hP hD hS hA [] [0, 1] (gZ_recv hZ hS hs3) rfl rfl (by decide) (by decide) (by decide) rfl hl.1 rfl (Nat.le_of_ble_eq_true rfl) d_Names_isOneOf_9 ⟨Nat.zero_le _, Nat.zero_le _⟩ (fun r_2 u_2 H locs hw hP hD hS => ?_)
      have e_2 := hw
      subst e_2
      have hP : va_P D vwCl [(a0, .inr (4, [.ref b0, .int (nI l0.length), .int o0])), (b0, .inl (kI, n0, .inl f0))] H := hP
      have hD : va_D A [(a0, .inr (4, [.ref b0, .int (nI l0.length), .int o0])), (b0, .inl (kI, n0, .inl f0))] := hD
      refine lv_icmp_ge (tgt := 64) hx hb d_Names_isOneOf_12 (by decide) (fun c_3 => ?_) (fun c_3 => ?_)
      · rw [if_pos c_3] at hF
        refine lv_iconst (v := 0) hx hb d_Names_isOneOf_64 (by decide) ?_
        exact hret 0 () _ _ _ _ d_Names_isOneOf_65 rfl (hRES.symm.trans hF) hP hD hS
      · rw [if_neg c_3] at hF
        refine lv_aload_n hx hb d_Names_isOneOf_15 rfl (lv_at hl 3 rfl) ?_
        refine lv_iload hx hb d_Names_isOneOf_16 (lv_at hl 5 rfl) ?_
        refine g_Vi (As := [.int i5]) (rest := []) (wr := [(a0, .inr (4, [.ref b0, .int (nI l0.length), .int o0])), (b0, .inl (kI, n0, .inl f0))]) ⟨hx, hb, hml, hown, hts⟩ (c_String_charAt l D Z kI H.size s3 i5 hi6_1 c_3 hs3) (cw_String_charAt hts k_319 ⟨Nat.le_of_ble_eq_true rfl, Nat.le_of_ble_eq_true rfl⟩) hK hZ hP hD hS hA [] [0, 1] (gZ_recv hZ hS hs3) rfl rfl (by decide) (by decide) (by decide) rfl hl.1 rfl (Nat.le_of_ble_eq_true rfl) d_Names_isOneOf_18 ⟨Nat.zero_le _, Nat.zero_le _⟩ (fun r_4 u_4 H locs hw hP hD hS => ?_)
        have e_4 := hw
        subst e_4
        have hP : va_P D vwCl [(a0, .inr (4, [.ref b0, .int (nI l0.length), .int o0])), (b0, .inl (kI, n0, .inl f0))] H := hP
        have hD : va_D A [(a0, .inr (4, [.ref b0, .int (nI l0.length), .int o0])), (b0, .inl (kI, n0, .inl f0))] := hD
        refine lv_bipush (v := 32) hx hb d_Names_isOneOf_21 (by decide) ?_
        refine lv_icmp_ne (tgt := 58) hx hb d_Names_isOneOf_23 (by decide) (fun c_5 => ?_) (fun c_5 => ?_)
        · rw [if_neg c_5] at hF
          refine lv_iinc (v := (i5 + 1)) (lv' := [(5, .int (i5 + 1)), (0, .ref a0), (1, .int i1), (2, .int i2), (3, .ref (Z.1 s3)), (4, .int i4)]) hx hb d_Names_isOneOf_58 hl (k := 5) rfl rfl (by decide) rfl (fun ls hl => ?_)
          refine lv_goto (tgt := 6) hx hb d_Names_isOneOf_61 (by decide) ?_
          exact ih6 i1 i2 i4 (i5 + 1)  _ _ _ hi6_0 (g_nn c_3 hi6_1) (Nat.lt_of_lt_of_le (g_dec1 c_3) (Nat.le_of_lt_succ hn6)) hF hP hD hS (lv_sub hl [1, 2, 3, 4, 5, 0] rfl)
        · rw [if_pos c_5] at hF
          refine lv_iload_n hx hb d_Names_isOneOf_26 rfl (lv_at hl 2 rfl) ?_
          refine lv_iload_n hx hb d_Names_isOneOf_27 rfl (lv_at hl 1 rfl) ?_
          refine lv_isub hx hb d_Names_isOneOf_28 ?_
          refine lv_iload hx hb d_Names_isOneOf_29 (lv_at hl 5 rfl) ?_
          refine lv_iload hx hb d_Names_isOneOf_31 (lv_at hl 4 rfl) ?_
          refine lv_isub hx hb d_Names_isOneOf_33 ?_
          refine lv_icmp_ne (tgt := 52) hx hb d_Names_isOneOf_34 (by decide) (fun c_6 => ?_) (fun c_6 => ?_)
          · rw [if_neg c_6] at hF
            refine lv_iload hx hb d_Names_isOneOf_52 (lv_at hl 5 rfl) ?_
            refine lv_iconst (v := 1) hx hb d_Names_isOneOf_54 (by decide) ?_
            refine lv_iadd hx hb d_Names_isOneOf_55 ?_
            refine lv_istore (lv' := [(4, .int (i5 + 1)), (0, .ref a0), (1, .int i1), (2, .int i2), (3, .ref (Z.1 s3)), (5, .int i5)]) hx hb d_Names_isOneOf_56 hl (by decide) rfl (fun ls hl => ?_)
            refine lv_iinc (v := (i5 + 1)) (lv' := [(5, .int (i5 + 1)), (4, .int (i5 + 1)), (0, .ref a0), (1, .int i1), (2, .int i2), (3, .ref (Z.1 s3))]) hx hb d_Names_isOneOf_58 hl (k := 5) rfl rfl (by decide) rfl (fun ls hl => ?_)
            refine lv_goto (tgt := 6) hx hb d_Names_isOneOf_61 (by decide) ?_
            exact ih6 i1 i2 (i5 + 1) (i5 + 1)  _ _ _ (g_nn c_3 hi6_1) (g_nn c_3 hi6_1) (Nat.lt_of_lt_of_le (g_dec1 c_3) (Nat.le_of_lt_succ hn6)) hF hP hD hS (lv_sub hl [2, 3, 4, 5, 1, 0] rfl)
          · rw [if_pos c_6] at hF
            refine lv_aload_n hx hb d_Names_isOneOf_37 rfl (lv_at hl 0 rfl) ?_
            refine lv_iload_n hx hb d_Names_isOneOf_38 rfl (lv_at hl 1 rfl) ?_
            refine lv_aload_n hx hb d_Names_isOneOf_39 rfl (lv_at hl 3 rfl) ?_
            refine lv_iload hx hb d_Names_isOneOf_40 (lv_at hl 4 rfl) ?_
            refine lv_iload hx hb d_Names_isOneOf_42 (lv_at hl 5 rfl) ?_
            refine g_Si (As := [.ref a0, .int i1, .ref (Z.1 s3), .int i4, .int i5]) (rest := []) (wr := []) ⟨hx, hb, hml, hown, hts⟩ (c_Names_goesOnAs l D Z kI a0 b0 n0 H.size f0 l0 o0 i1 s3 i4 i5 hr0 hs3 hi6_0) (cw_Names_goesOnAs hts k_357 ⟨Nat.le_of_ble_eq_true rfl, Nat.le_of_ble_eq_true rfl⟩) hK hZ hP hD hS hA [0, 1] [] rfl rfl (by decide) (by decide) (by decide) rfl hl.1 rfl (Nat.le_of_ble_eq_true rfl) d_Names_isOneOf_44 ⟨Nat.zero_le _, Nat.zero_le _⟩ (fun r_7 u_7 H locs hw hP hD hS => ?_)
            have e_7 := hw
            subst e_7
            have hP : va_P D vwCl [(a0, .inr (4, [.ref b0, .int (nI l0.length), .int o0])), (b0, .inl (kI, n0, .inl f0))] H := hP
            have hD : va_D A [(a0, .inr (4, [.ref b0, .int (nI l0.length), .int o0])), (b0, .inl (kI, n0, .inl f0))] := hD
            refine lv_if_eq (tgt := 52) hx hb d_Names_isOneOf_47 (by decide) (fun c_8 => ?_) (fun c_8 => ?_)
            · rw [if_pos c_8] at hF
              refine lv_iload hx hb d_Names_isOneOf_52 (lv_at hl 5 rfl) ?_
              refine lv_iconst (v := 1) hx hb d_Names_isOneOf_54 (by decide) ?_
              refine lv_iadd hx hb d_Names_isOneOf_55 ?_
              refine lv_istore (lv' := [(4, .int (i5 + 1)), (0, .ref a0), (1, .int i1), (2, .int i2), (3, .ref (Z.1 s3)), (5, .int i5)]) hx hb d_Names_isOneOf_56 hl (by decide) rfl (fun ls hl => ?_)
              refine lv_iinc (v := (i5 + 1)) (lv' := [(5, .int (i5 + 1)), (4, .int (i5 + 1)), (0, .ref a0), (1, .int i1), (2, .int i2), (3, .ref (Z.1 s3))]) hx hb d_Names_isOneOf_58 hl (k := 5) rfl rfl (by decide) rfl (fun ls hl => ?_)
              refine lv_goto (tgt := 6) hx hb d_Names_isOneOf_61 (by decide) ?_
              exact ih6 i1 i2 (i5 + 1) (i5 + 1)  _ _ _ (g_nn c_3 hi6_1) (g_nn c_3 hi6_1) (Nat.lt_of_lt_of_le (g_dec1 c_3) (Nat.le_of_lt_succ hn6)) hF hP hD hS (lv_sub hl [2, 3, 4, 5, 1, 0] rfl)
            · rw [if_neg c_8] at hF
              refine lv_iconst (v := 1) hx hb d_Names_isOneOf_50 (by decide) ?_
              exact hret 1 () _ _ _ _ d_Names_isOneOf_51 rfl (hRES.symm.trans hF) hP hD hS
  have hF := hRES
  rw [m_Names_isOneOf] at hF
  refine lv_iconst (v := 0) hx hb d_Names_isOneOf_0 (by decide) ?_
  refine lv_istore (lv' := [(4, .int 0), (0, .ref a0), (1, .int p1), (2, .int p2), (3, .ref (Z.1 s3))]) hx hb d_Names_isOneOf_1 hl (by decide) rfl (fun ls hl => ?_)
  refine lv_iconst (v := 0) hx hb d_Names_isOneOf_3 (by decide) ?_
  refine lv_istore (lv' := [(5, .int 0), (4, .int 0), (0, .ref a0), (1, .int p1), (2, .int p2), (3, .ref (Z.1 s3))]) hx hb d_Names_isOneOf_4 hl (by decide) rfl (fun ls hl => ?_)
  exact lp6 (((m_String_length s3).toInt - (0 : Int32).toInt).toNat + 1) p1 p2 0 0  _ _ _ (by decide) (by decide) (Nat.lt_succ_self _) hF hP hD hS (lv_sub hl [2, 3, 4, 5, 1, 0] rfl)
theorem cw_Names_isOneOf {R : Room} {s : State} {args : Array Value} {own : String} {idx : Nat} (hts : ∀ w ∈ gW, w.before args s = true) (hl : Cond.methodLink own idx y_Names_isOneOf ∈ gW) (hR : rm_Names_isOneOf.frames + 1 ≤ R.frames ∧ 8 + (6 + 11) + rm_Names_isOneOf.locals ≤ R.locals) : CallB R s args own idx y_Names_isOneOf b_Names_isOneOf 6 (some .boolean) w_Names_isOneOf rm_Names_isOneOf 0 0 4 ∧ (Cond.static y_Names_isOneOf).before args s = true := va_cwS 4 hts (gW_S hl k_307 k_78 k_308) rfl rfl rfl (by decide +kernel) hR
def m_Reader_readUtf16_l3 (n1 : Nat) : Nat → Int32 → Int32 → Int32 → Int32 → Int32 → List Int32 → Int32 → List Int32 → Int32 × List Int32 × Int32
  | 0, _, _, _, _, v0_firstHalf, l1, o1, _ => (v0_firstHalf, l1, o1)
  | nf3 + 1, i2, i3, i4, i6, v0_firstHalf, l1, o1, l2 =>
    if i3 ≤ (i6 + 1) then
      match (m_Reader_endUnits n1 v0_firstHalf l1 o1) with
      | (v0_firstHalf_2, l1_2, o1_2) =>
        if ((i3 - i2) - (i3 - i2) / 2 * 2) = 0 then
          (v0_firstHalf_2, l1_2, o1_2)
        else
          match (m_Row_put n1 l1_2 o1_2 65533) with
          | (l2_4, o2_4) =>
            (v0_firstHalf_2, l2_4, o2_4)
    else
      if i4 = 0 then
        match (m_Reader_takeUnit n1 v0_firstHalf l1 o1 (((m_Row_get l2 (i6 + 1)) * 256) + (m_Row_get l2 i6))) with
        | (v0_firstHalf_8, l1_8, o1_8) =>
          m_Reader_readUtf16_l3 n1 nf3 i2 i3 i4 (i6 + 2) v0_firstHalf_8 l1_8 o1_8 l2
      else
        match (m_Reader_takeUnit n1 v0_firstHalf l1 o1 (((m_Row_get l2 i6) * 256) + (m_Row_get l2 (i6 + 1)))) with
        | (v0_firstHalf_9, l1_9, o1_9) =>
          m_Reader_readUtf16_l3 n1 nf3 i2 i3 i4 (i6 + 2) v0_firstHalf_9 l1_9 o1_9 l2
def m_Reader_readUtf16 (n1 : Nat) (v0_firstHalf : Int32) (l1 : List Int32) (o1 : Int32) (l2 : List Int32) (p2 : Int32) (p3 : Int32) (p4 : Int32) : Int32 × List Int32 × Int32 :=
  m_Reader_readUtf16_l3 n1 ((p3.toInt - (p2 + 1).toInt).toNat + 1) p2 p3 p4 p2 v0_firstHalf l1 o1 l2
def rm_Reader_readUtf16 : Room := { frames := 3, cells := 0, slots := 0, locals := 65 }
set_option maxHeartbeats 4000000 in
set_option maxRecDepth 100000 in
theorem c_Reader_readUtf16 (l : Launch) (D : va_G) (Z : gZT) (kI : ClassId) (a0 : Nat) (x0_bits : Nat) (a1 : Nat) (b1 : Nat) (n1 : Nat) (a2 : Nat) (b2 : Nat) (n2 : Nat) (sz : Nat) (v0_firstHalf : Int32) (f1 : Nat → Int32) (l1 : List Int32) (o1 : Int32) (f2 : Nat → Int32) (l2 : List Int32) (o2 : Int32) (p2 : Int32) (p3 : Int32) (p4 : Int32) (hr1 : g_rw n1 f1 l1) (hr2 : g_rw n2 f2 l2) (hpre0 : ¬ 3000 < p3.toInt) : gMv l y_Reader_readUtf16 w_Reader_readUtf16 rm_Reader_readUtf16 D Z kI [.ref a0, .ref a2, .int p2, .int p3, .int p4, .ref a1] sz [(a0, .inr (3, [.ref x0_bits, .int v0_firstHalf])), (a1, .inr (4, [.ref b1, .int (nI l1.length), .int o1])), (b1, .inl (kI, n1, .inl f1)), (a2, .inr (4, [.ref b2, .int (nI l2.length), .int o2])), (b2, .inl (kI, n2, .inl f2))] (fun (u : Int32 × (Nat → Int32) × List Int32 × Int32) => m_Reader_readUtf16 n1 v0_firstHalf l1 o1 l2 p2 p3 p4 = (u.1, u.2.2.1, u.2.2.2) ∧ g_rw n1 u.2.1 u.2.2.1) (fun (u : Int32 × (Nat → Int32) × List Int32 × Int32) => ([(a0, .inr (3, [.ref x0_bits, .int u.1])), (a1, .inr (4, [.ref b1, .int (nI u.2.2.1.length), .int u.2.2.2])), (b1, .inl (kI, n1, .inl u.2.1)), (a2, .inr (4, [.ref b2, .int (nI l2.length), .int o2])), (b2, .inl (kI, n2, .inl f2))] : va_W)) := by
  refine g_ofv (cc := b_Reader_readUtf16) (maxL := 9) (by decide) rfl (Nat.le_of_ble_eq_true rfl) ?_
  intro p e s m below meth c A Q H ls hx hb hml hown hts hA hK hZ hP hD hS hl hret
  have hown : s.vm.findClass "MailCharacters$Reader" = some m.cls := hown
  have hl : lv_has ls 9 [(0, .ref a0), (1, .ref a2), (2, .int p2), (3, .int p3), (4, .int p4), (5, .ref a1)] := hl
  obtain ⟨RES, hRES⟩ : ∃ z, z = m_Reader_readUtf16 n1 v0_firstHalf l1 o1 l2 p2 p3 p4 := ⟨_, rfl⟩
  have lp3 : ∀ (nf3 : Nat) (i2 : Int32) (i3 : Int32) (i4 : Int32) (i6 : Int32) (v0_firstHalf : Int32) (f1 : Nat → Int32) (l1 : List Int32) (o1 : Int32) (hr1 : g_rw n1 f1 l1) (H : Heap) (locs : List Loc) (ls : Array Slot), ¬ 3000 < i3.toInt → (i3.toInt - (i6 + 1).toInt).toNat < nf3 → RES = m_Reader_readUtf16_l3 n1 nf3 i2 i3 i4 i6 v0_firstHalf l1 o1 l2 → va_P D vwCl [(a0, .inr (3, [.ref x0_bits, .int v0_firstHalf])), (a1, .inr (4, [.ref b1, .int (nI l1.length), .int o1])), (b1, .inl (kI, n1, .inl f1)), (a2, .inr (4, [.ref b2, .int (nI l2.length), .int o2])), (b2, .inl (kI, n2, .inl f2))] H → va_D A [(a0, .inr (3, [.ref x0_bits, .int v0_firstHalf])), (a1, .inr (4, [.ref b1, .int (nI l1.length), .int o1])), (b1, .inl (kI, n1, .inl f1)), (a2, .inr (4, [.ref b2, .int (nI l2.length), .int o2])), (b2, .inl (kI, n2, .inl f2))] → va_S A s.heap H locs → lv_has ls 9 [(0, .ref a0), (1, .ref a2), (2, .int i2), (3, .int i3), (4, .int i4), (5, .ref a1), (6, .int i6)] → W p l e rm_Reader_readUtf16 s m ([.ref a0, .ref a2, .int p2, .int p3, .int p4, .ref a1] : List Value).toArray below meth c H locs 0 0 Q (F0 m 3 ls []) := by
    intro nf3
    induction nf3 with
    | zero => intro i2 i3 i4 i6 v0_firstHalf f1 l1 o1 hr1 H locs ls hi3_0 hn3; exact absurd hn3 (Nat.not_lt_zero _)
    | succ nf3 ih3 =>
      intro i2 i3 i4 i6 v0_firstHalf f1 l1 o1 hr1 H locs ls hi3_0 hn3 hF hP hD hS hl
      rw [m_Reader_readUtf16_l3] at hF
      refine lv_iload hx hb d_Reader_readUtf16_3 (lv_at hl 6 rfl) ?_
      refine lv_iconst (v := 1) hx hb d_Reader_readUtf16_5 (by decide) ?_
      refine lv_iadd hx hb d_Reader_readUtf16_6 ?_
      refine lv_iload_n hx hb d_Reader_readUtf16_7 rfl (lv_at hl 3 rfl) ?_
      refine lv_icmp_ge (tgt := 67) hx hb d_Reader_readUtf16_8 (by decide) (fun c_1 => ?_) (fun c_1 => ?_)
      · rw [if_pos c_1] at hF
        refine lv_aload_n hx hb d_Reader_readUtf16_67 rfl (lv_at hl 0 rfl) ?_
        refine lv_aload hx hb d_Reader_readUtf16_68 (lv_at hl 5 rfl) ?_
        refine g_Vv (As := [.ref a1]) (rest := []) (wr := [(a2, .inr (4, [.ref b2, .int (nI l2.length), .int o2])), (b2, .inl (kI, n2, .inl f2))]) ⟨hx, hb, hml, hown, hts⟩ (c_Reader_endUnits l D Z kI a0 x0_bits a1 b1 n1 H.size v0_firstHalf f1 l1 o1 hr1) (cw_Reader_endUnits hts k_436 ⟨Nat.le_of_ble_eq_true rfl, Nat.le_of_ble_eq_true rfl⟩) hK hZ hP hD hS hA [0, 1, 2] [3, 4] (g_recv hK hP (ci := 3) (q0 := 0) rfl rfl) rfl rfl (by decide) (by decide) (by decide) rfl hl.1 rfl (Nat.le_of_ble_eq_true rfl) d_Reader_readUtf16_70 ⟨Nat.zero_le _, Nat.zero_le _⟩ (fun u_2 H locs hw hP hD hS => ?_)
        obtain ⟨v0_firstHalf_2, f1_2, l1_2, o1_2⟩ := u_2
        have e_2 := hw.1
        have hr1_2 := hw.2
        have hP : va_P D vwCl [(a2, .inr (4, [.ref b2, .int (nI l2.length), .int o2])), (b2, .inl (kI, n2, .inl f2)), (a0, .inr (3, [.ref x0_bits, .int v0_firstHalf_2])), (a1, .inr (4, [.ref b1, .int (nI l1_2.length), .int o1_2])), (b1, .inl (kI, n1, .inl f1_2))] H := hP
        have hD : va_D A [(a2, .inr (4, [.ref b2, .int (nI l2.length), .int o2])), (b2, .inl (kI, n2, .inl f2)), (a0, .inr (3, [.ref x0_bits, .int v0_firstHalf_2])), (a1, .inr (4, [.ref b1, .int (nI l1_2.length), .int o1_2])), (b1, .inl (kI, n1, .inl f1_2))] := hD
        rw [e_2] at hF; dsimp only at hF
        refine lv_iload_n hx hb d_Reader_readUtf16_73 rfl (lv_at hl 3 rfl) ?_
        refine lv_iload_n hx hb d_Reader_readUtf16_74 rfl (lv_at hl 2 rfl) ?_
        refine lv_isub hx hb d_Reader_readUtf16_75 ?_
        refine lv_iconst (v := 2) hx hb d_Reader_readUtf16_76 (by decide) ?_
        refine lv_irem hx hb d_Reader_readUtf16_77 (by decide) ?_
        refine lv_if_eq (tgt := 88) hx hb d_Reader_readUtf16_78 (by decide) (fun c_3 => ?_) (fun c_3 => ?_)
        · rw [if_pos c_3] at hF
          exact hret (v0_firstHalf_2, f1_2, l1_2, o1_2) _ _ _ _ d_Reader_readUtf16_88 (⟨hRES.symm.trans hF, hr1_2⟩) (hP.sub [2, 3, 4, 0, 1] rfl) (hD.sub [2, 3, 4, 0, 1] (by decide) rfl) hS
        · rw [if_neg c_3] at hF
          refine lv_aload hx hb d_Reader_readUtf16_81 (lv_at hl 5 rfl) ?_
          refine lv_ldc hx hb hown (hts _ k_410) d_Reader_readUtf16_83 ?_
          refine g_Vv (As := [.int 65533]) (rest := []) (wr := [(a2, .inr (4, [.ref b2, .int (nI l2.length), .int o2])), (b2, .inl (kI, n2, .inl f2)), (a0, .inr (3, [.ref x0_bits, .int v0_firstHalf_2]))]) ⟨hx, hb, hml, hown, hts⟩ (c_Row_put l D Z kI a1 b1 n1 H.size f1_2 l1_2 o1_2 65533 hr1_2) (cw_Row_put hts k_409 ⟨Nat.le_of_ble_eq_true rfl, Nat.le_of_ble_eq_true rfl⟩) hK hZ hP hD hS hA [3, 4] [0, 1, 2] (g_recv hK hP (ci := 4) (q0 := 3) rfl rfl) rfl rfl (by decide) (by decide) (by decide) rfl hl.1 rfl (Nat.le_of_ble_eq_true rfl) d_Reader_readUtf16_85 ⟨Nat.zero_le _, Nat.zero_le _⟩ (fun u_4 H locs hw hP hD hS => ?_)
          obtain ⟨f2_4, l2_4, o2_4⟩ := u_4
          have e_4 := hw.1
          have hr2_4 := hw.2
          have hP : va_P D vwCl [(a2, .inr (4, [.ref b2, .int (nI l2.length), .int o2])), (b2, .inl (kI, n2, .inl f2)), (a0, .inr (3, [.ref x0_bits, .int v0_firstHalf_2])), (a1, .inr (4, [.ref b1, .int (nI l2_4.length), .int o2_4])), (b1, .inl (kI, n1, .inl f2_4))] H := hP
          have hD : va_D A [(a2, .inr (4, [.ref b2, .int (nI l2.length), .int o2])), (b2, .inl (kI, n2, .inl f2)), (a0, .inr (3, [.ref x0_bits, .int v0_firstHalf_2])), (a1, .inr (4, [.ref b1, .int (nI l2_4.length), .int o2_4])), (b1, .inl (kI, n1, .inl f2_4))] := hD
          rw [e_4] at hF; dsimp only at hF
          exact hret (v0_firstHalf_2, f2_4, l2_4, o2_4) _ _ _ _ d_Reader_readUtf16_88 (⟨hRES.symm.trans hF, hr2_4⟩) (hP.sub [2, 3, 4, 0, 1] rfl) (hD.sub [2, 3, 4, 0, 1] (by decide) rfl) hS
      · rw [if_neg c_1] at hF
        refine lv_aload_n hx hb d_Reader_readUtf16_11 rfl (lv_at hl 1 rfl) ?_
        refine lv_iload hx hb d_Reader_readUtf16_12 (lv_at hl 6 rfl) ?_
        refine g_Vi (As := [.int i6]) (rest := []) (wr := [(a0, .inr (3, [.ref x0_bits, .int v0_firstHalf])), (a1, .inr (4, [.ref b1, .int (nI l1.length), .int o1])), (b1, .inl (kI, n1, .inl f1))]) ⟨hx, hb, hml, hown, hts⟩ (c_Row_get l D Z kI a2 b2 n2 H.size f2 l2 o2 i6 hr2) (cw_Row_get hts k_408 ⟨Nat.le_of_ble_eq_true rfl, Nat.le_of_ble_eq_true rfl⟩) hK hZ hP hD hS hA [3, 4] [0, 1, 2] (g_recv hK hP (ci := 4) (q0 := 3) rfl rfl) rfl rfl (by decide) (by decide) (by decide) rfl hl.1 rfl (Nat.le_of_ble_eq_true rfl) d_Reader_readUtf16_14 ⟨Nat.zero_le _, Nat.zero_le _⟩ (fun r_5 u_5 H locs hw hP hD hS => ?_)
        have e_5 := hw
        subst e_5
        have hP : va_P D vwCl [(a0, .inr (3, [.ref x0_bits, .int v0_firstHalf])), (a1, .inr (4, [.ref b1, .int (nI l1.length), .int o1])), (b1, .inl (kI, n1, .inl f1)), (a2, .inr (4, [.ref b2, .int (nI l2.length), .int o2])), (b2, .inl (kI, n2, .inl f2))] H := hP
        have hD : va_D A [(a0, .inr (3, [.ref x0_bits, .int v0_firstHalf])), (a1, .inr (4, [.ref b1, .int (nI l1.length), .int o1])), (b1, .inl (kI, n1, .inl f1)), (a2, .inr (4, [.ref b2, .int (nI l2.length), .int o2])), (b2, .inl (kI, n2, .inl f2))] := hD
        refine lv_istore (lv' := [(7, .int (m_Row_get l2 i6)), (0, .ref a0), (1, .ref a2), (2, .int i2), (3, .int i3), (4, .int i4), (5, .ref a1), (6, .int i6)]) hx hb d_Reader_readUtf16_17 hl (by decide) rfl (fun ls hl => ?_)
        refine lv_aload_n hx hb d_Reader_readUtf16_19 rfl (lv_at hl 2 rfl) ?_
        refine lv_iload hx hb d_Reader_readUtf16_20 (lv_at hl 7 rfl) ?_
        refine lv_iconst (v := 1) hx hb d_Reader_readUtf16_22 (by decide) ?_
        refine lv_iadd hx hb d_Reader_readUtf16_23 ?_
        refine g_Vi (As := [.int (i6 + 1)]) (rest := []) (wr := [(a0, .inr (3, [.ref x0_bits, .int v0_firstHalf])), (a1, .inr (4, [.ref b1, .int (nI l1.length), .int o1])), (b1, .inl (kI, n1, .inl f1))]) ⟨hx, hb, hml, hown, hts⟩ (c_Row_get l D Z kI a2 b2 n2 H.size f2 l2 o2 (i6 + 1) hr2) (cw_Row_get hts k_408 ⟨Nat.le_of_ble_eq_true rfl, Nat.le_of_ble_eq_true rfl⟩) hK hZ hP hD hS hA [3, 4] [0, 1, 2] (g_recv hK hP (ci := 4) (q0 := 3) rfl rfl) rfl rfl (by decide) (by decide) (by decide) rfl hl.1 rfl (Nat.le_of_ble_eq_true rfl) d_Reader_readUtf16_24 ⟨Nat.zero_le _, Nat.zero_le _⟩ (fun r_6 u_6 H locs hw hP hD hS => ?_)
        have e_6 := hw
        subst e_6
        have hP : va_P D vwCl [(a0, .inr (3, [.ref x0_bits, .int v0_firstHalf])), (a1, .inr (4, [.ref b1, .int (nI l1.length), .int o1])), (b1, .inl (kI, n1, .inl f1)), (a2, .inr (4, [.ref b2, .int (nI l2.length), .int o2])), (b2, .inl (kI, n2, .inl f2))] H := hP
        have hD : va_D A [(a0, .inr (3, [.ref x0_bits, .int v0_firstHalf])), (a1, .inr (4, [.ref b1, .int (nI l1.length), .int o1])), (b1, .inl (kI, n1, .inl f1)), (a2, .inr (4, [.ref b2, .int (nI l2.length), .int o2])), (b2, .inl (kI, n2, .inl f2))] := hD
        refine lv_istore (lv' := [(8, .int (m_Row_get l2 (i6 + 1))), (7, .int (m_Row_get l2 i6)), (0, .ref a0), (1, .ref a2), (2, .int i2), (3, .int i3), (4, .int i4), (5, .ref a1), (6, .int i6)]) hx hb d_Reader_readUtf16_27 hl (by decide) rfl (fun ls hl => ?_)
        refine lv_aload_n hx hb d_Reader_readUtf16_29 rfl (lv_at hl 2 rfl) ?_
        refine lv_iload hx hb d_Reader_readUtf16_30 (lv_at hl 6 rfl) ?_
        refine lv_if_eq (tgt := 47) hx hb d_Reader_readUtf16_32 (by decide) (fun c_7 => ?_) (fun c_7 => ?_)
        · rw [if_pos c_7] at hF
          refine lv_iload hx hb d_Reader_readUtf16_47 (lv_at hl 0 rfl) ?_
          refine lv_sipush (v := 256) hx hb d_Reader_readUtf16_49 (by decide) ?_
          refine lv_imul hx hb d_Reader_readUtf16_52 ?_
          refine lv_iload hx hb d_Reader_readUtf16_53 (lv_at hl 1 rfl) ?_
          refine lv_iadd hx hb d_Reader_readUtf16_55 ?_
          refine lv_aload hx hb d_Reader_readUtf16_56 (lv_at hl 7 rfl) ?_
          refine g_Vv (As := [.int (((m_Row_get l2 (i6 + 1)) * 256) + (m_Row_get l2 i6)), .ref a1]) (rest := []) (wr := [(a2, .inr (4, [.ref b2, .int (nI l2.length), .int o2])), (b2, .inl (kI, n2, .inl f2))]) ⟨hx, hb, hml, hown, hts⟩ (c_Reader_takeUnit l D Z kI a0 x0_bits a1 b1 n1 H.size v0_firstHalf f1 l1 o1 (((m_Row_get l2 (i6 + 1)) * 256) + (m_Row_get l2 i6)) hr1) (cw_Reader_takeUnit hts k_428 ⟨Nat.le_of_ble_eq_true rfl, Nat.le_of_ble_eq_true rfl⟩) hK hZ hP hD hS hA [0, 1, 2] [3, 4] (g_recv hK hP (ci := 3) (q0 := 0) rfl rfl) rfl rfl (by decide) (by decide) (by decide) rfl hl.1 rfl (Nat.le_of_ble_eq_true rfl) d_Reader_readUtf16_58 ⟨Nat.zero_le _, Nat.zero_le _⟩ (fun u_8 H locs hw hP hD hS => ?_)
          obtain ⟨v0_firstHalf_8, f1_8, l1_8, o1_8⟩ := u_8
          have e_8 := hw.1
          have hr1_8 := hw.2
          have hP : va_P D vwCl [(a2, .inr (4, [.ref b2, .int (nI l2.length), .int o2])), (b2, .inl (kI, n2, .inl f2)), (a0, .inr (3, [.ref x0_bits, .int v0_firstHalf_8])), (a1, .inr (4, [.ref b1, .int (nI l1_8.length), .int o1_8])), (b1, .inl (kI, n1, .inl f1_8))] H := hP
          have hD : va_D A [(a2, .inr (4, [.ref b2, .int (nI l2.length), .int o2])), (b2, .inl (kI, n2, .inl f2)), (a0, .inr (3, [.ref x0_bits, .int v0_firstHalf_8])), (a1, .inr (4, [.ref b1, .int (nI l1_8.length), .int o1_8])), (b1, .inl (kI, n1, .inl f1_8))] := hD
          rw [e_8] at hF; dsimp only at hF
          refine lv_iinc (v := (i6 + 2)) (lv' := [(6, .int (i6 + 2)), (8, .int (m_Row_get l2 (i6 + 1))), (7, .int (m_Row_get l2 i6)), (0, .ref a0), (1, .ref a2), (2, .int i2), (3, .int i3), (4, .int i4), (5, .ref a1)]) hx hb d_Reader_readUtf16_61 hl (k := 8) rfl rfl (by decide) rfl (fun ls hl => ?_)
          refine lv_goto (tgt := 3) hx hb d_Reader_readUtf16_64 (by decide) ?_
          exact ih3 i2 i3 i4 (i6 + 2) v0_firstHalf_8 f1_8 l1_8 o1_8 hr1_8 _ _ _ hi3_0 (Nat.lt_of_lt_of_le (g_decu c_1 hi3_0) (Nat.le_of_lt_succ hn3)) hF (hP.sub [2, 3, 4, 0, 1] rfl) (hD.sub [2, 3, 4, 0, 1] (by decide) rfl) hS (lv_sub hl [3, 4, 5, 6, 7, 8, 0] rfl)
        · rw [if_neg c_7] at hF
          refine lv_iload hx hb d_Reader_readUtf16_35 (lv_at hl 1 rfl) ?_
          refine lv_sipush (v := 256) hx hb d_Reader_readUtf16_37 (by decide) ?_
          refine lv_imul hx hb d_Reader_readUtf16_40 ?_
          refine lv_iload hx hb d_Reader_readUtf16_41 (lv_at hl 0 rfl) ?_
          refine lv_iadd hx hb d_Reader_readUtf16_43 ?_
          refine lv_goto (tgt := 56) hx hb d_Reader_readUtf16_44 (by decide) ?_
          refine lv_aload hx hb d_Reader_readUtf16_56 (lv_at hl 7 rfl) ?_
          refine g_Vv (As := [.int (((m_Row_get l2 i6) * 256) + (m_Row_get l2 (i6 + 1))), .ref a1]) (rest := []) (wr := [(a2, .inr (4, [.ref b2, .int (nI l2.length), .int o2])), (b2, .inl (kI, n2, .inl f2))]) ⟨hx, hb, hml, hown, hts⟩ (c_Reader_takeUnit l D Z kI a0 x0_bits a1 b1 n1 H.size v0_firstHalf f1 l1 o1 (((m_Row_get l2 i6) * 256) + (m_Row_get l2 (i6 + 1))) hr1) (cw_Reader_takeUnit hts k_428 ⟨Nat.le_of_ble_eq_true rfl, Nat.le_of_ble_eq_true rfl⟩) hK hZ hP hD hS hA [0, 1, 2] [3, 4] (g_recv hK hP (ci := 3) (q0 := 0) rfl rfl) rfl rfl (by decide) (by decide) (by decide) rfl hl.1 rfl (Nat.le_of_ble_eq_true rfl) d_Reader_readUtf16_58 ⟨Nat.zero_le _, Nat.zero_le _⟩ (fun u_9 H locs hw hP hD hS => ?_)
          obtain ⟨v0_firstHalf_9, f1_9, l1_9, o1_9⟩ := u_9
          have e_9 := hw.1
          have hr1_9 := hw.2
          have hP : va_P D vwCl [(a2, .inr (4, [.ref b2, .int (nI l2.length), .int o2])), (b2, .inl (kI, n2, .inl f2)), (a0, .inr (3, [.ref x0_bits, .int v0_firstHalf_9])), (a1, .inr (4, [.ref b1, .int (nI l1_9.length), .int o1_9])), (b1, .inl (kI, n1, .inl f1_9))] H := hP
          have hD : va_D A [(a2, .inr (4, [.ref b2, .int (nI l2.length), .int o2])), (b2, .inl (kI, n2, .inl f2)), (a0, .inr (3, [.ref x0_bits, .int v0_firstHalf_9])), (a1, .inr (4, [.ref b1, .int (nI l1_9.length), .int o1_9])), (b1, .inl (kI, n1, .inl f1_9))] := hD
          rw [e_9] at hF; dsimp only at hF
          refine lv_iinc (v := (i6 + 2)) (lv' := [(6, .int (i6 + 2)), (8, .int (m_Row_get l2 (i6 + 1))), (7, .int (m_Row_get l2 i6)), (0, .ref a0), (1, .ref a2), (2, .int i2), (3, .int i3), (4, .int i4), (5, .ref a1)]) hx hb d_Reader_readUtf16_61 hl (k := 8) rfl rfl (by decide) rfl (fun ls hl => ?_)
          refine lv_goto (tgt := 3) hx hb d_Reader_readUtf16_64 (by decide) ?_
          exact ih3 i2 i3 i4 (i6 + 2) v0_firstHalf_9 f1_9 l1_9 o1_9 hr1_9 _ _ _ hi3_0 (Nat.lt_of_lt_of_le (g_decu c_1 hi3_0) (Nat.le_of_lt_succ hn3)) hF (hP.sub [2, 3, 4, 0, 1] rfl) (hD.sub [2, 3, 4, 0, 1] (by decide) rfl) hS (lv_sub hl [3, 4, 5, 6, 7, 8, 0] rfl)
  have hF := hRES
  rw [m_Reader_readUtf16] at hF
  refine lv_iload_n hx hb d_Reader_readUtf16_0 rfl (lv_at hl 2 rfl) ?_
  refine lv_istore (lv' := [(6, .int p2), (0, .ref a0), (1, .ref a2), (2, .int p2), (3, .int p3), (4, .int p4), (5, .ref a1)]) hx hb d_Reader_readUtf16_1 hl (by decide) rfl (fun ls hl => ?_)
  exact lp3 ((p3.toInt - (p2 + 1).toInt).toNat + 1) p2 p3 p4 p2 v0_firstHalf f1 l1 o1 hr1 _ _ _ hpre0 (Nat.lt_succ_self _) hF hP hD hS (lv_sub hl [1, 2, 3, 4, 5, 6, 0] rfl)
theorem cw_Reader_readUtf16 {R : Room} {s : State} {args : Array Value} {own : String} {idx : Nat} (hts : ∀ w ∈ gW, w.before args s = true) (hl : Cond.methodLink own idx y_Reader_readUtf16 ∈ gW) (hR : rm_Reader_readUtf16.frames + 1 ≤ R.frames ∧ 8 + (9 + 11) + rm_Reader_readUtf16.locals ≤ R.locals) : CallW R s args own "MailCharacters$Reader" idx y_Reader_readUtf16 b_Reader_readUtf16 9 none w_Reader_readUtf16 rm_Reader_readUtf16 0 0 5 := cwV 5 hts (gW_V hl k_426 k_3 k_74 k_427) rfl rfl rfl (by decide +kernel) hR
def m_Reader_readUtf7_l9 (n1 : Nat) : Nat → Int32 → Int32 → Int32 → Int32 → Int32 → List Int32 → Int32 → List Int32 → Int32 → Int32 → Int32 × List Int32 × Int32 × Int32 × Int32
  | 0, _, _, _, _, v0_firstHalf, l1, o1, _, v3_value, v3_held => (v0_firstHalf, l1, o1, v3_value, v3_held)
  | nf9 + 1, i3, i5, i6, i7, v0_firstHalf, l1, o1, l2, v3_value, v3_held =>
    if i3 ≤ i7 then
      match (m_Reader_endUnits n1 v0_firstHalf l1 o1) with
      | (v0_firstHalf_2, l1_2, o1_2) =>
        (v0_firstHalf_2, l1_2, o1_2, v3_value, v3_held)
    else
      if i5 = 0 then
        match (m_Reader_endUnits n1 v0_firstHalf l1 o1) with
        | (v0_firstHalf_6, l1_6, o1_6) =>
          if (m_Row_get l2 i7) = 43 then
            match m_Bits_clear with
            | (v0_value_15, v0_held_15) =>
              m_Reader_readUtf7_l9 n1 nf9 i3 1 1 (i7 + 1) v0_firstHalf_6 l1_6 o1_6 l2 v0_value_15 v0_held_15
          else
            if 128 ≤ (m_Row_get l2 i7) then
              match (m_Row_put n1 l1_6 o1_6 65533) with
              | (l3_12, o3_12) =>
                m_Reader_readUtf7_l9 n1 nf9 i3 0 i6 (i7 + 1) v0_firstHalf_6 l3_12 o3_12 l2 v3_value v3_held
            else
              match (m_Row_put n1 l1_6 o1_6 (m_Row_get l2 i7)) with
              | (l3_13, o3_13) =>
                m_Reader_readUtf7_l9 n1 nf9 i3 0 i6 (i7 + 1) v0_firstHalf_6 l3_13 o3_13 l2 v3_value v3_held
      else
        if (m_Letters_sixBitsOf (m_Row_get l2 i7)) = (-1) then
          match (m_Reader_endUnits n1 v0_firstHalf l1 o1) with
          | (v0_firstHalf_18, l1_18, o1_18) =>
            if (m_Row_get l2 i7) = 45 then
              if i6 = 0 then
                m_Reader_readUtf7_l9 n1 nf9 i3 0 i6 (i7 + 1) v0_firstHalf_18 l1_18 o1_18 l2 v3_value v3_held
              else
                match (m_Row_put n1 l1_18 o1_18 43) with
                | (l3_24, o3_24) =>
                  m_Reader_readUtf7_l9 n1 nf9 i3 0 i6 (i7 + 1) v0_firstHalf_18 l3_24 o3_24 l2 v3_value v3_held
            else
              if 128 ≤ (m_Row_get l2 i7) then
                match (m_Row_put n1 l1_18 o1_18 65533) with
                | (l3_26, o3_26) =>
                  m_Reader_readUtf7_l9 n1 nf9 i3 0 i6 (i7 + 1) v0_firstHalf_18 l3_26 o3_26 l2 v3_value v3_held
              else
                match (m_Row_put n1 l1_18 o1_18 (m_Row_get l2 i7)) with
                | (l3_27, o3_27) =>
                  m_Reader_readUtf7_l9 n1 nf9 i3 0 i6 (i7 + 1) v0_firstHalf_18 l3_27 o3_27 l2 v3_value v3_held
        else
          match (m_Reader_takeSixBits n1 v0_firstHalf v3_value v3_held l1 o1 (m_Letters_sixBitsOf (m_Row_get l2 i7))) with
          | (v0_firstHalf_28, v2_value_28, v2_held_28, l1_28, o1_28) =>
            m_Reader_readUtf7_l9 n1 nf9 i3 i5 0 (i7 + 1) v0_firstHalf_28 l1_28 o1_28 l2 v2_value_28 v2_held_28
def m_Reader_readUtf7 (n1 : Nat) (v0_firstHalf : Int32) (l1 : List Int32) (o1 : Int32) (l2 : List Int32) (v3_value : Int32) (v3_held : Int32) (p2 : Int32) (p3 : Int32) : Int32 × List Int32 × Int32 × Int32 × Int32 :=
  m_Reader_readUtf7_l9 n1 ((p3.toInt - p2.toInt).toNat + 1) p3 0 1 p2 v0_firstHalf l1 o1 l2 v3_value v3_held
def rm_Reader_readUtf7 : Room := { frames := 4, cells := 0, slots := 0, locals := 87 }
set_option maxHeartbeats 4000000 in
set_option maxRecDepth 100000 in
theorem c_Reader_readUtf7 (l : Launch) (D : va_G) (Z : gZT) (kI : ClassId) (a0 : Nat) (a1 : Nat) (b1 : Nat) (n1 : Nat) (a2 : Nat) (b2 : Nat) (n2 : Nat) (a3 : Nat) (sz : Nat) (v0_firstHalf : Int32) (f1 : Nat → Int32) (l1 : List Int32) (o1 : Int32) (f2 : Nat → Int32) (l2 : List Int32) (o2 : Int32) (v3_value : Int32) (v3_held : Int32) (p2 : Int32) (p3 : Int32) (hr1 : g_rw n1 f1 l1) (hr2 : g_rw n2 f2 l2) : gMv l y_Reader_readUtf7 w_Reader_readUtf7 rm_Reader_readUtf7 D Z kI [.ref a0, .ref a2, .int p2, .int p3, .ref a1] sz [(a0, .inr (3, [.ref a3, .int v0_firstHalf])), (a1, .inr (4, [.ref b1, .int (nI l1.length), .int o1])), (b1, .inl (kI, n1, .inl f1)), (a2, .inr (4, [.ref b2, .int (nI l2.length), .int o2])), (b2, .inl (kI, n2, .inl f2)), (a3, .inr (0, [.int v3_value, .int v3_held]))] (fun (u : Int32 × (Nat → Int32) × List Int32 × Int32 × Int32 × Int32) => m_Reader_readUtf7 n1 v0_firstHalf l1 o1 l2 v3_value v3_held p2 p3 = (u.1, u.2.2.1, u.2.2.2.1, u.2.2.2.2.1, u.2.2.2.2.2) ∧ g_rw n1 u.2.1 u.2.2.1) (fun (u : Int32 × (Nat → Int32) × List Int32 × Int32 × Int32 × Int32) => ([(a0, .inr (3, [.ref a3, .int u.1])), (a1, .inr (4, [.ref b1, .int (nI u.2.2.1.length), .int u.2.2.2.1])), (b1, .inl (kI, n1, .inl u.2.1)), (a2, .inr (4, [.ref b2, .int (nI l2.length), .int o2])), (b2, .inl (kI, n2, .inl f2)), (a3, .inr (0, [.int u.2.2.2.2.1, .int u.2.2.2.2.2]))] : va_W)) := by
  refine g_ofv (cc := b_Reader_readUtf7) (maxL := 11) (by decide) rfl (Nat.le_of_ble_eq_true rfl) ?_
  intro p e s m below meth c A Q H ls hx hb hml hown hts hA hK hZ hP hD hS hl hret
  have hown : s.vm.findClass "MailCharacters$Reader" = some m.cls := hown
  have hl : lv_has ls 11 [(0, .ref a0), (1, .ref a2), (2, .int p2), (3, .int p3), (4, .ref a1)] := hl
  obtain ⟨RES, hRES⟩ : ∃ z, z = m_Reader_readUtf7 n1 v0_firstHalf l1 o1 l2 v3_value v3_held p2 p3 := ⟨_, rfl⟩
  have lp9 : ∀ (nf9 : Nat) (i3 : Int32) (i5 : Int32) (i6 : Int32) (i7 : Int32) (v0_firstHalf : Int32) (f1 : Nat → Int32) (l1 : List Int32) (o1 : Int32) (v3_value : Int32) (v3_held : Int32) (hr1 : g_rw n1 f1 l1) (H : Heap) (locs : List Loc) (ls : Array Slot), (i3.toInt - i7.toInt).toNat < nf9 → RES = m_Reader_readUtf7_l9 n1 nf9 i3 i5 i6 i7 v0_firstHalf l1 o1 l2 v3_value v3_held → va_P D vwCl [(a0, .inr (3, [.ref a3, .int v0_firstHalf])), (a1, .inr (4, [.ref b1, .int (nI l1.length), .int o1])), (b1, .inl (kI, n1, .inl f1)), (a2, .inr (4, [.ref b2, .int (nI l2.length), .int o2])), (b2, .inl (kI, n2, .inl f2)), (a3, .inr (0, [.int v3_value, .int v3_held]))] H → va_D A [(a0, .inr (3, [.ref a3, .int v0_firstHalf])), (a1, .inr (4, [.ref b1, .int (nI l1.length), .int o1])), (b1, .inl (kI, n1, .inl f1)), (a2, .inr (4, [.ref b2, .int (nI l2.length), .int o2])), (b2, .inl (kI, n2, .inl f2)), (a3, .inr (0, [.int v3_value, .int v3_held]))] → va_S A s.heap H locs → lv_has ls 11 [(0, .ref a0), (1, .ref a2), (3, .int i3), (4, .ref a1), (5, .int i5), (6, .int i6), (7, .int i7)] → W p l e rm_Reader_readUtf7 s m ([.ref a0, .ref a2, .int p2, .int p3, .ref a1] : List Value).toArray below meth c H locs 0 0 Q (F0 m 9 ls []) := by
    intro nf9
    induction nf9 with
    | zero => intro i3 i5 i6 i7 v0_firstHalf f1 l1 o1 v3_value v3_held hr1 H locs ls hn9; exact absurd hn9 (Nat.not_lt_zero _)
    | succ nf9 ih9 =>
      intro i3 i5 i6 i7 v0_firstHalf f1 l1 o1 v3_value v3_held hr1 H locs ls hn9 hF hP hD hS hl
      rw [m_Reader_readUtf7_l9] at hF
      refine lv_iload hx hb d_Reader_readUtf7_9 (lv_at hl 6 rfl) ?_
      refine lv_iload_n hx hb d_Reader_readUtf7_11 rfl (lv_at hl 2 rfl) ?_
      refine lv_icmp_ge (tgt := 159) hx hb d_Reader_readUtf7_12 (by decide) (fun c_1 => ?_) (fun c_1 => ?_)
      · rw [if_pos c_1] at hF
        refine lv_aload_n hx hb d_Reader_readUtf7_159 rfl (lv_at hl 0 rfl) ?_
        refine lv_aload hx hb d_Reader_readUtf7_160 (lv_at hl 3 rfl) ?_
        refine g_Vv (As := [.ref a1]) (rest := []) (wr := [(a2, .inr (4, [.ref b2, .int (nI l2.length), .int o2])), (b2, .inl (kI, n2, .inl f2)), (a3, .inr (0, [.int v3_value, .int v3_held]))]) ⟨hx, hb, hml, hown, hts⟩ (c_Reader_endUnits l D Z kI a0 a3 a1 b1 n1 H.size v0_firstHalf f1 l1 o1 hr1) (cw_Reader_endUnits hts k_436 ⟨Nat.le_of_ble_eq_true rfl, Nat.le_of_ble_eq_true rfl⟩) hK hZ hP hD hS hA [0, 1, 2] [3, 4, 5] (g_recv hK hP (ci := 3) (q0 := 0) rfl rfl) rfl rfl (by decide) (by decide) (by decide) rfl hl.1 rfl (Nat.le_of_ble_eq_true rfl) d_Reader_readUtf7_162 ⟨Nat.zero_le _, Nat.zero_le _⟩ (fun u_2 H locs hw hP hD hS => ?_)
        obtain ⟨v0_firstHalf_2, f1_2, l1_2, o1_2⟩ := u_2
        have e_2 := hw.1
        have hr1_2 := hw.2
        have hP : va_P D vwCl [(a2, .inr (4, [.ref b2, .int (nI l2.length), .int o2])), (b2, .inl (kI, n2, .inl f2)), (a3, .inr (0, [.int v3_value, .int v3_held])), (a0, .inr (3, [.ref a3, .int v0_firstHalf_2])), (a1, .inr (4, [.ref b1, .int (nI l1_2.length), .int o1_2])), (b1, .inl (kI, n1, .inl f1_2))] H := hP
        have hD : va_D A [(a2, .inr (4, [.ref b2, .int (nI l2.length), .int o2])), (b2, .inl (kI, n2, .inl f2)), (a3, .inr (0, [.int v3_value, .int v3_held])), (a0, .inr (3, [.ref a3, .int v0_firstHalf_2])), (a1, .inr (4, [.ref b1, .int (nI l1_2.length), .int o1_2])), (b1, .inl (kI, n1, .inl f1_2))] := hD
        rw [e_2] at hF; dsimp only at hF
        exact hret (v0_firstHalf_2, f1_2, l1_2, o1_2, v3_value, v3_held) _ _ _ _ d_Reader_readUtf7_165 (⟨hRES.symm.trans hF, hr1_2⟩) (hP.sub [3, 4, 5, 0, 1, 2] rfl) (hD.sub [3, 4, 5, 0, 1, 2] (by decide) rfl) hS
      · rw [if_neg c_1] at hF
        refine lv_aload_n hx hb d_Reader_readUtf7_15 rfl (lv_at hl 1 rfl) ?_
        refine lv_iload hx hb d_Reader_readUtf7_16 (lv_at hl 6 rfl) ?_
        refine g_Vi (As := [.int i7]) (rest := []) (wr := [(a0, .inr (3, [.ref a3, .int v0_firstHalf])), (a1, .inr (4, [.ref b1, .int (nI l1.length), .int o1])), (b1, .inl (kI, n1, .inl f1)), (a3, .inr (0, [.int v3_value, .int v3_held]))]) ⟨hx, hb, hml, hown, hts⟩ (c_Row_get l D Z kI a2 b2 n2 H.size f2 l2 o2 i7 hr2) (cw_Row_get hts k_408 ⟨Nat.le_of_ble_eq_true rfl, Nat.le_of_ble_eq_true rfl⟩) hK hZ hP hD hS hA [3, 4] [0, 1, 2, 5] (g_recv hK hP (ci := 4) (q0 := 3) rfl rfl) rfl rfl (by decide) (by decide) (by decide) rfl hl.1 rfl (Nat.le_of_ble_eq_true rfl) d_Reader_readUtf7_18 ⟨Nat.zero_le _, Nat.zero_le _⟩ (fun r_3 u_3 H locs hw hP hD hS => ?_)
        have e_3 := hw
        subst e_3
        have hP : va_P D vwCl [(a0, .inr (3, [.ref a3, .int v0_firstHalf])), (a1, .inr (4, [.ref b1, .int (nI l1.length), .int o1])), (b1, .inl (kI, n1, .inl f1)), (a3, .inr (0, [.int v3_value, .int v3_held])), (a2, .inr (4, [.ref b2, .int (nI l2.length), .int o2])), (b2, .inl (kI, n2, .inl f2))] H := hP
        have hD : va_D A [(a0, .inr (3, [.ref a3, .int v0_firstHalf])), (a1, .inr (4, [.ref b1, .int (nI l1.length), .int o1])), (b1, .inl (kI, n1, .inl f1)), (a3, .inr (0, [.int v3_value, .int v3_held])), (a2, .inr (4, [.ref b2, .int (nI l2.length), .int o2])), (b2, .inl (kI, n2, .inl f2))] := hD
        refine lv_istore (lv' := [(8, .int (m_Row_get l2 i7)), (0, .ref a0), (1, .ref a2), (3, .int i3), (4, .ref a1), (5, .int i5), (6, .int i6), (7, .int i7)]) hx hb d_Reader_readUtf7_21 hl (by decide) rfl (fun ls hl => ?_)
        refine lv_iload hx hb d_Reader_readUtf7_23 (lv_at hl 5 rfl) ?_
        refine lv_if_eq (tgt := 36) hx hb d_Reader_readUtf7_25 (by decide) (fun c_4 => ?_) (fun c_4 => ?_)
        · rw [if_pos c_4] at hF
          refine lv_iconst (v := (-1)) hx hb d_Reader_readUtf7_36 (by decide) ?_
          refine lv_istore (lv' := [(9, .int (-1)), (8, .int (m_Row_get l2 i7)), (0, .ref a0), (1, .ref a2), (3, .int i3), (4, .ref a1), (5, .int i5), (6, .int i6), (7, .int i7)]) hx hb d_Reader_readUtf7_37 hl (by decide) rfl (fun ls hl => ?_)
          refine lv_iload hx hb d_Reader_readUtf7_39 (lv_at hl 0 rfl) ?_
          refine lv_iconst (v := (-1)) hx hb d_Reader_readUtf7_41 (by decide) ?_
          refine lv_icmp_eq (tgt := 59) hx hb d_Reader_readUtf7_42 (by decide) (fun c_5 => ?_) (fun c_5 => ?_)
          · refine lv_iload hx hb d_Reader_readUtf7_59 (lv_at hl 6 rfl) ?_
            refine lv_istore (lv' := [(10, .int i5), (9, .int (-1)), (8, .int (m_Row_get l2 i7)), (0, .ref a0), (1, .ref a2), (3, .int i3), (4, .ref a1), (5, .int i5), (6, .int i6), (7, .int i7)]) hx hb d_Reader_readUtf7_61 hl (by decide) rfl (fun ls hl => ?_)
            refine lv_aload_n hx hb d_Reader_readUtf7_63 rfl (lv_at hl 3 rfl) ?_
            refine lv_aload hx hb d_Reader_readUtf7_64 (lv_at hl 6 rfl) ?_
            refine g_Vv (As := [.ref a1]) (rest := []) (wr := [(a3, .inr (0, [.int v3_value, .int v3_held])), (a2, .inr (4, [.ref b2, .int (nI l2.length), .int o2])), (b2, .inl (kI, n2, .inl f2))]) ⟨hx, hb, hml, hown, hts⟩ (c_Reader_endUnits l D Z kI a0 a3 a1 b1 n1 H.size v0_firstHalf f1 l1 o1 hr1) (cw_Reader_endUnits hts k_436 ⟨Nat.le_of_ble_eq_true rfl, Nat.le_of_ble_eq_true rfl⟩) hK hZ hP hD hS hA [0, 1, 2] [3, 4, 5] (g_recv hK hP (ci := 3) (q0 := 0) rfl rfl) rfl rfl (by decide) (by decide) (by decide) rfl hl.1 rfl (Nat.le_of_ble_eq_true rfl) d_Reader_readUtf7_66 ⟨Nat.zero_le _, Nat.zero_le _⟩ (fun u_6 H locs hw hP hD hS => ?_)
            obtain ⟨v0_firstHalf_6, f1_6, l1_6, o1_6⟩ := u_6
            have e_6 := hw.1
            have hr1_6 := hw.2
            have hP : va_P D vwCl [(a3, .inr (0, [.int v3_value, .int v3_held])), (a2, .inr (4, [.ref b2, .int (nI l2.length), .int o2])), (b2, .inl (kI, n2, .inl f2)), (a0, .inr (3, [.ref a3, .int v0_firstHalf_6])), (a1, .inr (4, [.ref b1, .int (nI l1_6.length), .int o1_6])), (b1, .inl (kI, n1, .inl f1_6))] H := hP
            have hD : va_D A [(a3, .inr (0, [.int v3_value, .int v3_held])), (a2, .inr (4, [.ref b2, .int (nI l2.length), .int o2])), (b2, .inl (kI, n2, .inl f2)), (a0, .inr (3, [.ref a3, .int v0_firstHalf_6])), (a1, .inr (4, [.ref b1, .int (nI l1_6.length), .int o1_6])), (b1, .inl (kI, n1, .inl f1_6))] := hD
            rw [e_6] at hF; dsimp only at hF
            refine lv_iload hx hb d_Reader_readUtf7_69 (lv_at hl 0 rfl) ?_
            refine lv_if_ne (tgt := 85) hx hb d_Reader_readUtf7_71 (by decide) (fun c_7 => ?_) (fun c_7 => ?_)
            · exact absurd c_4 c_7
            · refine lv_iload hx hb d_Reader_readUtf7_74 (lv_at hl 2 rfl) ?_
              refine lv_bipush (v := 43) hx hb d_Reader_readUtf7_76 (by decide) ?_
              refine lv_icmp_ne (tgt := 85) hx hb d_Reader_readUtf7_78 (by decide) (fun c_8 => ?_) (fun c_8 => ?_)
              · rw [if_neg c_8] at hF
                refine lv_iconst (v := 0) hx hb d_Reader_readUtf7_85 (by decide) ?_
                refine lv_istore (lv' := [(5, .int 0), (10, .int i5), (9, .int (-1)), (8, .int (m_Row_get l2 i7)), (0, .ref a0), (1, .ref a2), (3, .int i3), (4, .ref a1), (6, .int i6), (7, .int i7)]) hx hb d_Reader_readUtf7_86 hl (by decide) rfl (fun ls hl => ?_)
                refine lv_iload hx hb d_Reader_readUtf7_88 (lv_at hl 0 rfl) ?_
                refine lv_if_eq (tgt := 106) hx hb d_Reader_readUtf7_90 (by decide) (fun c_9 => ?_) (fun c_9 => ?_)
                · refine lv_iload hx hb d_Reader_readUtf7_106 (lv_at hl 1 rfl) ?_
                  refine lv_if_eq (tgt := 118) hx hb d_Reader_readUtf7_108 (by decide) (fun c_10 => ?_) (fun c_10 => ?_)
                  · refine lv_aload hx hb d_Reader_readUtf7_118 (lv_at hl 7 rfl) ?_
                    refine lv_iload hx hb d_Reader_readUtf7_120 (lv_at hl 3 rfl) ?_
                    refine lv_sipush (v := 128) hx hb d_Reader_readUtf7_122 (by decide) ?_
                    refine lv_icmp_ge (tgt := 133) hx hb d_Reader_readUtf7_125 (by decide) (fun c_11 => ?_) (fun c_11 => ?_)
                    · rw [if_pos c_11] at hF
                      refine lv_ldc hx hb hown (hts _ k_410) d_Reader_readUtf7_133 ?_
                      refine g_Vv (As := [.int 65533]) (rest := []) (wr := [(a3, .inr (0, [.int v3_value, .int v3_held])), (a2, .inr (4, [.ref b2, .int (nI l2.length), .int o2])), (b2, .inl (kI, n2, .inl f2)), (a0, .inr (3, [.ref a3, .int v0_firstHalf_6]))]) ⟨hx, hb, hml, hown, hts⟩ (c_Row_put l D Z kI a1 b1 n1 H.size f1_6 l1_6 o1_6 65533 hr1_6) (cw_Row_put hts k_409 ⟨Nat.le_of_ble_eq_true rfl, Nat.le_of_ble_eq_true rfl⟩) hK hZ hP hD hS hA [4, 5] [0, 1, 2, 3] (g_recv hK hP (ci := 4) (q0 := 4) rfl rfl) rfl rfl (by decide) (by decide) (by decide) rfl hl.1 rfl (Nat.le_of_ble_eq_true rfl) d_Reader_readUtf7_135 ⟨Nat.zero_le _, Nat.zero_le _⟩ (fun u_12 H locs hw hP hD hS => ?_)
                      obtain ⟨f3_12, l3_12, o3_12⟩ := u_12
                      have e_12 := hw.1
                      have hr3_12 := hw.2
                      have hP : va_P D vwCl [(a3, .inr (0, [.int v3_value, .int v3_held])), (a2, .inr (4, [.ref b2, .int (nI l2.length), .int o2])), (b2, .inl (kI, n2, .inl f2)), (a0, .inr (3, [.ref a3, .int v0_firstHalf_6])), (a1, .inr (4, [.ref b1, .int (nI l3_12.length), .int o3_12])), (b1, .inl (kI, n1, .inl f3_12))] H := hP
                      have hD : va_D A [(a3, .inr (0, [.int v3_value, .int v3_held])), (a2, .inr (4, [.ref b2, .int (nI l2.length), .int o2])), (b2, .inl (kI, n2, .inl f2)), (a0, .inr (3, [.ref a3, .int v0_firstHalf_6])), (a1, .inr (4, [.ref b1, .int (nI l3_12.length), .int o3_12])), (b1, .inl (kI, n1, .inl f3_12))] := hD
                      rw [e_12] at hF; dsimp only at hF
                      refine lv_goto (tgt := 153) hx hb d_Reader_readUtf7_138 (by decide) ?_
                      refine lv_iinc (v := (i7 + 1)) (lv' := [(7, .int (i7 + 1)), (5, .int 0), (10, .int i5), (9, .int (-1)), (8, .int (m_Row_get l2 i7)), (0, .ref a0), (1, .ref a2), (3, .int i3), (4, .ref a1), (6, .int i6)]) hx hb d_Reader_readUtf7_153 hl (k := 9) rfl rfl (by decide) rfl (fun ls hl => ?_)
                      refine lv_goto (tgt := 9) hx hb d_Reader_readUtf7_156 (by decide) ?_
                      exact ih9 i3 0 i6 (i7 + 1) v0_firstHalf_6 f3_12 l3_12 o3_12 v3_value v3_held hr3_12 _ _ _  (Nat.lt_of_lt_of_le (g_dec1 c_1) (Nat.le_of_lt_succ hn9)) hF (hP.sub [3, 4, 5, 1, 2, 0] rfl) (hD.sub [3, 4, 5, 1, 2, 0] (by decide) rfl) hS (lv_sub hl [5, 6, 7, 8, 1, 9, 0] rfl)
                    · rw [if_neg c_11] at hF
                      refine lv_iload hx hb d_Reader_readUtf7_128 (lv_at hl 3 rfl) ?_
                      refine lv_goto (tgt := 135) hx hb d_Reader_readUtf7_130 (by decide) ?_
                      refine g_Vv (As := [.int (m_Row_get l2 i7)]) (rest := []) (wr := [(a3, .inr (0, [.int v3_value, .int v3_held])), (a2, .inr (4, [.ref b2, .int (nI l2.length), .int o2])), (b2, .inl (kI, n2, .inl f2)), (a0, .inr (3, [.ref a3, .int v0_firstHalf_6]))]) ⟨hx, hb, hml, hown, hts⟩ (c_Row_put l D Z kI a1 b1 n1 H.size f1_6 l1_6 o1_6 (m_Row_get l2 i7) hr1_6) (cw_Row_put hts k_409 ⟨Nat.le_of_ble_eq_true rfl, Nat.le_of_ble_eq_true rfl⟩) hK hZ hP hD hS hA [4, 5] [0, 1, 2, 3] (g_recv hK hP (ci := 4) (q0 := 4) rfl rfl) rfl rfl (by decide) (by decide) (by decide) rfl hl.1 rfl (Nat.le_of_ble_eq_true rfl) d_Reader_readUtf7_135 ⟨Nat.zero_le _, Nat.zero_le _⟩ (fun u_13 H locs hw hP hD hS => ?_)
                      obtain ⟨f3_13, l3_13, o3_13⟩ := u_13
                      have e_13 := hw.1
                      have hr3_13 := hw.2
                      have hP : va_P D vwCl [(a3, .inr (0, [.int v3_value, .int v3_held])), (a2, .inr (4, [.ref b2, .int (nI l2.length), .int o2])), (b2, .inl (kI, n2, .inl f2)), (a0, .inr (3, [.ref a3, .int v0_firstHalf_6])), (a1, .inr (4, [.ref b1, .int (nI l3_13.length), .int o3_13])), (b1, .inl (kI, n1, .inl f3_13))] H := hP
                      have hD : va_D A [(a3, .inr (0, [.int v3_value, .int v3_held])), (a2, .inr (4, [.ref b2, .int (nI l2.length), .int o2])), (b2, .inl (kI, n2, .inl f2)), (a0, .inr (3, [.ref a3, .int v0_firstHalf_6])), (a1, .inr (4, [.ref b1, .int (nI l3_13.length), .int o3_13])), (b1, .inl (kI, n1, .inl f3_13))] := hD
                      rw [e_13] at hF; dsimp only at hF
                      refine lv_goto (tgt := 153) hx hb d_Reader_readUtf7_138 (by decide) ?_
                      refine lv_iinc (v := (i7 + 1)) (lv' := [(7, .int (i7 + 1)), (5, .int 0), (10, .int i5), (9, .int (-1)), (8, .int (m_Row_get l2 i7)), (0, .ref a0), (1, .ref a2), (3, .int i3), (4, .ref a1), (6, .int i6)]) hx hb d_Reader_readUtf7_153 hl (k := 9) rfl rfl (by decide) rfl (fun ls hl => ?_)
                      refine lv_goto (tgt := 9) hx hb d_Reader_readUtf7_156 (by decide) ?_
                      exact ih9 i3 0 i6 (i7 + 1) v0_firstHalf_6 f3_13 l3_13 o3_13 v3_value v3_held hr3_13 _ _ _  (Nat.lt_of_lt_of_le (g_dec1 c_1) (Nat.le_of_lt_succ hn9)) hF (hP.sub [3, 4, 5, 1, 2, 0] rfl) (hD.sub [3, 4, 5, 1, 2, 0] (by decide) rfl) hS (lv_sub hl [5, 6, 7, 8, 1, 9, 0] rfl)
                  · exact absurd c_4 c_10
                · exact absurd c_9 (by decide)
              · rw [if_pos c_8] at hF
                refine lv_iconst (v := 1) hx hb d_Reader_readUtf7_81 (by decide) ?_
                refine lv_goto (tgt := 86) hx hb d_Reader_readUtf7_82 (by decide) ?_
                refine lv_istore (lv' := [(5, .int 1), (10, .int i5), (9, .int (-1)), (8, .int (m_Row_get l2 i7)), (0, .ref a0), (1, .ref a2), (3, .int i3), (4, .ref a1), (6, .int i6), (7, .int i7)]) hx hb d_Reader_readUtf7_86 hl (by decide) rfl (fun ls hl => ?_)
                refine lv_iload hx hb d_Reader_readUtf7_88 (lv_at hl 0 rfl) ?_
                refine lv_if_eq (tgt := 106) hx hb d_Reader_readUtf7_90 (by decide) (fun c_14 => ?_) (fun c_14 => ?_)
                · exact absurd c_14 (by decide)
                · refine lv_aload_n hx hb d_Reader_readUtf7_93 rfl (lv_at hl 4 rfl) ?_
                  refine va_get (D := D) (ci := 3) (v := .ref a3) (C := "MailCharacters$Reader") (T := F_Reader) (N := 2) hx hb hts i_Reader hown hK hP 3 rfl rfl 0 (by decide) (hts _ k_190) (fun _ h9 => h9) rfl d_Reader_readUtf7_94 ?_
                  refine g_Vv (As := []) (rest := []) (wr := [(a2, .inr (4, [.ref b2, .int (nI l2.length), .int o2])), (b2, .inl (kI, n2, .inl f2)), (a0, .inr (3, [.ref a3, .int v0_firstHalf_6])), (a1, .inr (4, [.ref b1, .int (nI l1_6.length), .int o1_6])), (b1, .inl (kI, n1, .inl f1_6))]) ⟨hx, hb, hml, hown, hts⟩ (c_Bits_clear l D Z kI a3 H.size v3_value v3_held) (cw_Bits_clear hts k_464 ⟨Nat.le_of_ble_eq_true rfl, Nat.le_of_ble_eq_true rfl⟩) hK hZ hP hD hS hA [0] [1, 2, 3, 4, 5] (g_recv hK hP (ci := 0) (q0 := 0) rfl rfl) rfl rfl (by decide) (by decide) (by decide) rfl hl.1 rfl (Nat.le_of_ble_eq_true rfl) d_Reader_readUtf7_97 ⟨Nat.zero_le _, Nat.zero_le _⟩ (fun u_15 H locs hw hP hD hS => ?_)
                  obtain ⟨v0_value_15, v0_held_15⟩ := u_15
                  have e_15 := hw
                  have hP : va_P D vwCl [(a2, .inr (4, [.ref b2, .int (nI l2.length), .int o2])), (b2, .inl (kI, n2, .inl f2)), (a0, .inr (3, [.ref a3, .int v0_firstHalf_6])), (a1, .inr (4, [.ref b1, .int (nI l1_6.length), .int o1_6])), (b1, .inl (kI, n1, .inl f1_6)), (a3, .inr (0, [.int v0_value_15, .int v0_held_15]))] H := hP
                  have hD : va_D A [(a2, .inr (4, [.ref b2, .int (nI l2.length), .int o2])), (b2, .inl (kI, n2, .inl f2)), (a0, .inr (3, [.ref a3, .int v0_firstHalf_6])), (a1, .inr (4, [.ref b1, .int (nI l1_6.length), .int o1_6])), (b1, .inl (kI, n1, .inl f1_6)), (a3, .inr (0, [.int v0_value_15, .int v0_held_15]))] := hD
                  rw [e_15] at hF; dsimp only at hF
                  refine lv_iconst (v := 1) hx hb d_Reader_readUtf7_100 (by decide) ?_
                  refine lv_istore (lv' := [(6, .int 1), (5, .int 1), (10, .int i5), (9, .int (-1)), (8, .int (m_Row_get l2 i7)), (0, .ref a0), (1, .ref a2), (3, .int i3), (4, .ref a1), (7, .int i7)]) hx hb d_Reader_readUtf7_101 hl (by decide) rfl (fun ls hl => ?_)
                  refine lv_goto (tgt := 153) hx hb d_Reader_readUtf7_103 (by decide) ?_
                  refine lv_iinc (v := (i7 + 1)) (lv' := [(7, .int (i7 + 1)), (6, .int 1), (5, .int 1), (10, .int i5), (9, .int (-1)), (8, .int (m_Row_get l2 i7)), (0, .ref a0), (1, .ref a2), (3, .int i3), (4, .ref a1)]) hx hb d_Reader_readUtf7_153 hl (k := 9) rfl rfl (by decide) rfl (fun ls hl => ?_)
                  refine lv_goto (tgt := 9) hx hb d_Reader_readUtf7_156 (by decide) ?_
                  exact ih9 i3 1 1 (i7 + 1) v0_firstHalf_6 f1_6 l1_6 o1_6 v0_value_15 v0_held_15 hr1_6 _ _ _  (Nat.lt_of_lt_of_le (g_dec1 c_1) (Nat.le_of_lt_succ hn9)) hF (hP.sub [2, 3, 4, 0, 1, 5] rfl) (hD.sub [2, 3, 4, 0, 1, 5] (by decide) rfl) hS (lv_sub hl [6, 7, 8, 9, 2, 1, 0] rfl)
          · exact absurd c_5 (by decide)
        · rw [if_neg c_4] at hF
          refine lv_iload hx hb d_Reader_readUtf7_28 (lv_at hl 0 rfl) ?_
          refine g_Si (As := [.int (m_Row_get l2 i7)]) (rest := []) (wr := [(a0, .inr (3, [.ref a3, .int v0_firstHalf])), (a1, .inr (4, [.ref b1, .int (nI l1.length), .int o1])), (b1, .inl (kI, n1, .inl f1)), (a3, .inr (0, [.int v3_value, .int v3_held])), (a2, .inr (4, [.ref b2, .int (nI l2.length), .int o2])), (b2, .inl (kI, n2, .inl f2))]) ⟨hx, hb, hml, hown, hts⟩ (c_Letters_sixBitsOf l D Z kI H.size (m_Row_get l2 i7)) (cw_Letters_sixBitsOf hts k_445 ⟨Nat.le_of_ble_eq_true rfl, Nat.le_of_ble_eq_true rfl⟩) hK hZ hP hD hS hA [] [0, 1, 2, 3, 4, 5] rfl rfl (by decide) (by decide) (by decide) rfl hl.1 rfl (Nat.le_of_ble_eq_true rfl) d_Reader_readUtf7_30 ⟨Nat.zero_le _, Nat.zero_le _⟩ (fun r_16 u_16 H locs hw hP hD hS => ?_)
          have e_16 := hw
          subst e_16
          have hP : va_P D vwCl [(a0, .inr (3, [.ref a3, .int v0_firstHalf])), (a1, .inr (4, [.ref b1, .int (nI l1.length), .int o1])), (b1, .inl (kI, n1, .inl f1)), (a3, .inr (0, [.int v3_value, .int v3_held])), (a2, .inr (4, [.ref b2, .int (nI l2.length), .int o2])), (b2, .inl (kI, n2, .inl f2))] H := hP
          have hD : va_D A [(a0, .inr (3, [.ref a3, .int v0_firstHalf])), (a1, .inr (4, [.ref b1, .int (nI l1.length), .int o1])), (b1, .inl (kI, n1, .inl f1)), (a3, .inr (0, [.int v3_value, .int v3_held])), (a2, .inr (4, [.ref b2, .int (nI l2.length), .int o2])), (b2, .inl (kI, n2, .inl f2))] := hD
          refine lv_goto (tgt := 37) hx hb d_Reader_readUtf7_33 (by decide) ?_
          refine lv_istore (lv' := [(9, .int (m_Letters_sixBitsOf (m_Row_get l2 i7))), (8, .int (m_Row_get l2 i7)), (0, .ref a0), (1, .ref a2), (3, .int i3), (4, .ref a1), (5, .int i5), (6, .int i6), (7, .int i7)]) hx hb d_Reader_readUtf7_37 hl (by decide) rfl (fun ls hl => ?_)
          refine lv_iload hx hb d_Reader_readUtf7_39 (lv_at hl 0 rfl) ?_
          refine lv_iconst (v := (-1)) hx hb d_Reader_readUtf7_41 (by decide) ?_
          refine lv_icmp_eq (tgt := 59) hx hb d_Reader_readUtf7_42 (by decide) (fun c_17 => ?_) (fun c_17 => ?_)
          · rw [if_pos c_17] at hF
            refine lv_iload hx hb d_Reader_readUtf7_59 (lv_at hl 6 rfl) ?_
            refine lv_istore (lv' := [(10, .int i5), (9, .int (m_Letters_sixBitsOf (m_Row_get l2 i7))), (8, .int (m_Row_get l2 i7)), (0, .ref a0), (1, .ref a2), (3, .int i3), (4, .ref a1), (5, .int i5), (6, .int i6), (7, .int i7)]) hx hb d_Reader_readUtf7_61 hl (by decide) rfl (fun ls hl => ?_)
            refine lv_aload_n hx hb d_Reader_readUtf7_63 rfl (lv_at hl 3 rfl) ?_
            refine lv_aload hx hb d_Reader_readUtf7_64 (lv_at hl 6 rfl) ?_
            refine g_Vv (As := [.ref a1]) (rest := []) (wr := [(a3, .inr (0, [.int v3_value, .int v3_held])), (a2, .inr (4, [.ref b2, .int (nI l2.length), .int o2])), (b2, .inl (kI, n2, .inl f2))]) ⟨hx, hb, hml, hown, hts⟩ (c_Reader_endUnits l D Z kI a0 a3 a1 b1 n1 H.size v0_firstHalf f1 l1 o1 hr1) (cw_Reader_endUnits hts k_436 ⟨Nat.le_of_ble_eq_true rfl, Nat.le_of_ble_eq_true rfl⟩) hK hZ hP hD hS hA [0, 1, 2] [3, 4, 5] (g_recv hK hP (ci := 3) (q0 := 0) rfl rfl) rfl rfl (by decide) (by decide) (by decide) rfl hl.1 rfl (Nat.le_of_ble_eq_true rfl) d_Reader_readUtf7_66 ⟨Nat.zero_le _, Nat.zero_le _⟩ (fun u_18 H locs hw hP hD hS => ?_)
            obtain ⟨v0_firstHalf_18, f1_18, l1_18, o1_18⟩ := u_18
            have e_18 := hw.1
            have hr1_18 := hw.2
            have hP : va_P D vwCl [(a3, .inr (0, [.int v3_value, .int v3_held])), (a2, .inr (4, [.ref b2, .int (nI l2.length), .int o2])), (b2, .inl (kI, n2, .inl f2)), (a0, .inr (3, [.ref a3, .int v0_firstHalf_18])), (a1, .inr (4, [.ref b1, .int (nI l1_18.length), .int o1_18])), (b1, .inl (kI, n1, .inl f1_18))] H := hP
            have hD : va_D A [(a3, .inr (0, [.int v3_value, .int v3_held])), (a2, .inr (4, [.ref b2, .int (nI l2.length), .int o2])), (b2, .inl (kI, n2, .inl f2)), (a0, .inr (3, [.ref a3, .int v0_firstHalf_18])), (a1, .inr (4, [.ref b1, .int (nI l1_18.length), .int o1_18])), (b1, .inl (kI, n1, .inl f1_18))] := hD
            rw [e_18] at hF; dsimp only at hF
            refine lv_iload hx hb d_Reader_readUtf7_69 (lv_at hl 0 rfl) ?_
            refine lv_if_ne (tgt := 85) hx hb d_Reader_readUtf7_71 (by decide) (fun c_19 => ?_) (fun c_19 => ?_)
            · refine lv_iconst (v := 0) hx hb d_Reader_readUtf7_85 (by decide) ?_
              refine lv_istore (lv' := [(5, .int 0), (10, .int i5), (9, .int (m_Letters_sixBitsOf (m_Row_get l2 i7))), (8, .int (m_Row_get l2 i7)), (0, .ref a0), (1, .ref a2), (3, .int i3), (4, .ref a1), (6, .int i6), (7, .int i7)]) hx hb d_Reader_readUtf7_86 hl (by decide) rfl (fun ls hl => ?_)
              refine lv_iload hx hb d_Reader_readUtf7_88 (lv_at hl 0 rfl) ?_
              refine lv_if_eq (tgt := 106) hx hb d_Reader_readUtf7_90 (by decide) (fun c_20 => ?_) (fun c_20 => ?_)
              · refine lv_iload hx hb d_Reader_readUtf7_106 (lv_at hl 1 rfl) ?_
                refine lv_if_eq (tgt := 118) hx hb d_Reader_readUtf7_108 (by decide) (fun c_21 => ?_) (fun c_21 => ?_)
                · exact absurd c_21 c_4
                · refine lv_iload hx hb d_Reader_readUtf7_111 (lv_at hl 3 rfl) ?_
                  refine lv_bipush (v := 45) hx hb d_Reader_readUtf7_113 (by decide) ?_
                  refine lv_icmp_eq (tgt := 141) hx hb d_Reader_readUtf7_115 (by decide) (fun c_22 => ?_) (fun c_22 => ?_)
                  · rw [if_pos c_22] at hF
                    refine lv_iload hx hb d_Reader_readUtf7_141 (lv_at hl 8 rfl) ?_
                    refine lv_if_eq (tgt := 153) hx hb d_Reader_readUtf7_143 (by decide) (fun c_23 => ?_) (fun c_23 => ?_)
                    · rw [if_pos c_23] at hF
                      refine lv_iinc (v := (i7 + 1)) (lv' := [(7, .int (i7 + 1)), (5, .int 0), (10, .int i5), (9, .int (m_Letters_sixBitsOf (m_Row_get l2 i7))), (8, .int (m_Row_get l2 i7)), (0, .ref a0), (1, .ref a2), (3, .int i3), (4, .ref a1), (6, .int i6)]) hx hb d_Reader_readUtf7_153 hl (k := 9) rfl rfl (by decide) rfl (fun ls hl => ?_)
                      refine lv_goto (tgt := 9) hx hb d_Reader_readUtf7_156 (by decide) ?_
                      exact ih9 i3 0 i6 (i7 + 1) v0_firstHalf_18 f1_18 l1_18 o1_18 v3_value v3_held hr1_18 _ _ _  (Nat.lt_of_lt_of_le (g_dec1 c_1) (Nat.le_of_lt_succ hn9)) hF (hP.sub [3, 4, 5, 1, 2, 0] rfl) (hD.sub [3, 4, 5, 1, 2, 0] (by decide) rfl) hS (lv_sub hl [5, 6, 7, 8, 1, 9, 0] rfl)
                    · rw [if_neg c_23] at hF
                      refine lv_aload hx hb d_Reader_readUtf7_146 (lv_at hl 7 rfl) ?_
                      refine lv_bipush (v := 43) hx hb d_Reader_readUtf7_148 (by decide) ?_
                      refine g_Vv (As := [.int 43]) (rest := []) (wr := [(a3, .inr (0, [.int v3_value, .int v3_held])), (a2, .inr (4, [.ref b2, .int (nI l2.length), .int o2])), (b2, .inl (kI, n2, .inl f2)), (a0, .inr (3, [.ref a3, .int v0_firstHalf_18]))]) ⟨hx, hb, hml, hown, hts⟩ (c_Row_put l D Z kI a1 b1 n1 H.size f1_18 l1_18 o1_18 43 hr1_18) (cw_Row_put hts k_409 ⟨Nat.le_of_ble_eq_true rfl, Nat.le_of_ble_eq_true rfl⟩) hK hZ hP hD hS hA [4, 5] [0, 1, 2, 3] (g_recv hK hP (ci := 4) (q0 := 4) rfl rfl) rfl rfl (by decide) (by decide) (by decide) rfl hl.1 rfl (Nat.le_of_ble_eq_true rfl) d_Reader_readUtf7_150 ⟨Nat.zero_le _, Nat.zero_le _⟩ (fun u_24 H locs hw hP hD hS => ?_)
                      obtain ⟨f3_24, l3_24, o3_24⟩ := u_24
                      have e_24 := hw.1
                      have hr3_24 := hw.2
                      have hP : va_P D vwCl [(a3, .inr (0, [.int v3_value, .int v3_held])), (a2, .inr (4, [.ref b2, .int (nI l2.length), .int o2])), (b2, .inl (kI, n2, .inl f2)), (a0, .inr (3, [.ref a3, .int v0_firstHalf_18])), (a1, .inr (4, [.ref b1, .int (nI l3_24.length), .int o3_24])), (b1, .inl (kI, n1, .inl f3_24))] H := hP
                      have hD : va_D A [(a3, .inr (0, [.int v3_value, .int v3_held])), (a2, .inr (4, [.ref b2, .int (nI l2.length), .int o2])), (b2, .inl (kI, n2, .inl f2)), (a0, .inr (3, [.ref a3, .int v0_firstHalf_18])), (a1, .inr (4, [.ref b1, .int (nI l3_24.length), .int o3_24])), (b1, .inl (kI, n1, .inl f3_24))] := hD
                      rw [e_24] at hF; dsimp only at hF
                      refine lv_iinc (v := (i7 + 1)) (lv' := [(7, .int (i7 + 1)), (5, .int 0), (10, .int i5), (9, .int (m_Letters_sixBitsOf (m_Row_get l2 i7))), (8, .int (m_Row_get l2 i7)), (0, .ref a0), (1, .ref a2), (3, .int i3), (4, .ref a1), (6, .int i6)]) hx hb d_Reader_readUtf7_153 hl (k := 9) rfl rfl (by decide) rfl (fun ls hl => ?_)
                      refine lv_goto (tgt := 9) hx hb d_Reader_readUtf7_156 (by decide) ?_
                      exact ih9 i3 0 i6 (i7 + 1) v0_firstHalf_18 f3_24 l3_24 o3_24 v3_value v3_held hr3_24 _ _ _  (Nat.lt_of_lt_of_le (g_dec1 c_1) (Nat.le_of_lt_succ hn9)) hF (hP.sub [3, 4, 5, 1, 2, 0] rfl) (hD.sub [3, 4, 5, 1, 2, 0] (by decide) rfl) hS (lv_sub hl [5, 6, 7, 8, 1, 9, 0] rfl)
                  · rw [if_neg c_22] at hF
                    refine lv_aload hx hb d_Reader_readUtf7_118 (lv_at hl 7 rfl) ?_
                    refine lv_iload hx hb d_Reader_readUtf7_120 (lv_at hl 3 rfl) ?_
                    refine lv_sipush (v := 128) hx hb d_Reader_readUtf7_122 (by decide) ?_
                    refine lv_icmp_ge (tgt := 133) hx hb d_Reader_readUtf7_125 (by decide) (fun c_25 => ?_) (fun c_25 => ?_)
                    · rw [if_pos c_25] at hF
                      refine lv_ldc hx hb hown (hts _ k_410) d_Reader_readUtf7_133 ?_
                      refine g_Vv (As := [.int 65533]) (rest := []) (wr := [(a3, .inr (0, [.int v3_value, .int v3_held])), (a2, .inr (4, [.ref b2, .int (nI l2.length), .int o2])), (b2, .inl (kI, n2, .inl f2)), (a0, .inr (3, [.ref a3, .int v0_firstHalf_18]))]) ⟨hx, hb, hml, hown, hts⟩ (c_Row_put l D Z kI a1 b1 n1 H.size f1_18 l1_18 o1_18 65533 hr1_18) (cw_Row_put hts k_409 ⟨Nat.le_of_ble_eq_true rfl, Nat.le_of_ble_eq_true rfl⟩) hK hZ hP hD hS hA [4, 5] [0, 1, 2, 3] (g_recv hK hP (ci := 4) (q0 := 4) rfl rfl) rfl rfl (by decide) (by decide) (by decide) rfl hl.1 rfl (Nat.le_of_ble_eq_true rfl) d_Reader_readUtf7_135 ⟨Nat.zero_le _, Nat.zero_le _⟩ (fun u_26 H locs hw hP hD hS => ?_)
                      obtain ⟨f3_26, l3_26, o3_26⟩ := u_26
                      have e_26 := hw.1
                      have hr3_26 := hw.2
                      have hP : va_P D vwCl [(a3, .inr (0, [.int v3_value, .int v3_held])), (a2, .inr (4, [.ref b2, .int (nI l2.length), .int o2])), (b2, .inl (kI, n2, .inl f2)), (a0, .inr (3, [.ref a3, .int v0_firstHalf_18])), (a1, .inr (4, [.ref b1, .int (nI l3_26.length), .int o3_26])), (b1, .inl (kI, n1, .inl f3_26))] H := hP
                      have hD : va_D A [(a3, .inr (0, [.int v3_value, .int v3_held])), (a2, .inr (4, [.ref b2, .int (nI l2.length), .int o2])), (b2, .inl (kI, n2, .inl f2)), (a0, .inr (3, [.ref a3, .int v0_firstHalf_18])), (a1, .inr (4, [.ref b1, .int (nI l3_26.length), .int o3_26])), (b1, .inl (kI, n1, .inl f3_26))] := hD
                      rw [e_26] at hF; dsimp only at hF
                      refine lv_goto (tgt := 153) hx hb d_Reader_readUtf7_138 (by decide) ?_
                      refine lv_iinc (v := (i7 + 1)) (lv' := [(7, .int (i7 + 1)), (5, .int 0), (10, .int i5), (9, .int (m_Letters_sixBitsOf (m_Row_get l2 i7))), (8, .int (m_Row_get l2 i7)), (0, .ref a0), (1, .ref a2), (3, .int i3), (4, .ref a1), (6, .int i6)]) hx hb d_Reader_readUtf7_153 hl (k := 9) rfl rfl (by decide) rfl (fun ls hl => ?_)
                      refine lv_goto (tgt := 9) hx hb d_Reader_readUtf7_156 (by decide) ?_
                      exact ih9 i3 0 i6 (i7 + 1) v0_firstHalf_18 f3_26 l3_26 o3_26 v3_value v3_held hr3_26 _ _ _  (Nat.lt_of_lt_of_le (g_dec1 c_1) (Nat.le_of_lt_succ hn9)) hF (hP.sub [3, 4, 5, 1, 2, 0] rfl) (hD.sub [3, 4, 5, 1, 2, 0] (by decide) rfl) hS (lv_sub hl [5, 6, 7, 8, 1, 9, 0] rfl)
                    · rw [if_neg c_25] at hF
                      refine lv_iload hx hb d_Reader_readUtf7_128 (lv_at hl 3 rfl) ?_
                      refine lv_goto (tgt := 135) hx hb d_Reader_readUtf7_130 (by decide) ?_
                      refine g_Vv (As := [.int (m_Row_get l2 i7)]) (rest := []) (wr := [(a3, .inr (0, [.int v3_value, .int v3_held])), (a2, .inr (4, [.ref b2, .int (nI l2.length), .int o2])), (b2, .inl (kI, n2, .inl f2)), (a0, .inr (3, [.ref a3, .int v0_firstHalf_18]))]) ⟨hx, hb, hml, hown, hts⟩ (c_Row_put l D Z kI a1 b1 n1 H.size f1_18 l1_18 o1_18 (m_Row_get l2 i7) hr1_18) (cw_Row_put hts k_409 ⟨Nat.le_of_ble_eq_true rfl, Nat.le_of_ble_eq_true rfl⟩) hK hZ hP hD hS hA [4, 5] [0, 1, 2, 3] (g_recv hK hP (ci := 4) (q0 := 4) rfl rfl) rfl rfl (by decide) (by decide) (by decide) rfl hl.1 rfl (Nat.le_of_ble_eq_true rfl) d_Reader_readUtf7_135 ⟨Nat.zero_le _, Nat.zero_le _⟩ (fun u_27 H locs hw hP hD hS => ?_)
                      obtain ⟨f3_27, l3_27, o3_27⟩ := u_27
                      have e_27 := hw.1
                      have hr3_27 := hw.2
                      have hP : va_P D vwCl [(a3, .inr (0, [.int v3_value, .int v3_held])), (a2, .inr (4, [.ref b2, .int (nI l2.length), .int o2])), (b2, .inl (kI, n2, .inl f2)), (a0, .inr (3, [.ref a3, .int v0_firstHalf_18])), (a1, .inr (4, [.ref b1, .int (nI l3_27.length), .int o3_27])), (b1, .inl (kI, n1, .inl f3_27))] H := hP
                      have hD : va_D A [(a3, .inr (0, [.int v3_value, .int v3_held])), (a2, .inr (4, [.ref b2, .int (nI l2.length), .int o2])), (b2, .inl (kI, n2, .inl f2)), (a0, .inr (3, [.ref a3, .int v0_firstHalf_18])), (a1, .inr (4, [.ref b1, .int (nI l3_27.length), .int o3_27])), (b1, .inl (kI, n1, .inl f3_27))] := hD
                      rw [e_27] at hF; dsimp only at hF
                      refine lv_goto (tgt := 153) hx hb d_Reader_readUtf7_138 (by decide) ?_
                      refine lv_iinc (v := (i7 + 1)) (lv' := [(7, .int (i7 + 1)), (5, .int 0), (10, .int i5), (9, .int (m_Letters_sixBitsOf (m_Row_get l2 i7))), (8, .int (m_Row_get l2 i7)), (0, .ref a0), (1, .ref a2), (3, .int i3), (4, .ref a1), (6, .int i6)]) hx hb d_Reader_readUtf7_153 hl (k := 9) rfl rfl (by decide) rfl (fun ls hl => ?_)
                      refine lv_goto (tgt := 9) hx hb d_Reader_readUtf7_156 (by decide) ?_
                      exact ih9 i3 0 i6 (i7 + 1) v0_firstHalf_18 f3_27 l3_27 o3_27 v3_value v3_held hr3_27 _ _ _  (Nat.lt_of_lt_of_le (g_dec1 c_1) (Nat.le_of_lt_succ hn9)) hF (hP.sub [3, 4, 5, 1, 2, 0] rfl) (hD.sub [3, 4, 5, 1, 2, 0] (by decide) rfl) hS (lv_sub hl [5, 6, 7, 8, 1, 9, 0] rfl)
              · exact absurd c_20 (by decide)
            · exact absurd c_19 c_4
          · rw [if_neg c_17] at hF
            refine lv_aload_n hx hb d_Reader_readUtf7_45 rfl (lv_at hl 2 rfl) ?_
            refine lv_iload hx hb d_Reader_readUtf7_46 (lv_at hl 0 rfl) ?_
            refine lv_aload hx hb d_Reader_readUtf7_48 (lv_at hl 5 rfl) ?_
            refine g_Vv (As := [.int (m_Letters_sixBitsOf (m_Row_get l2 i7)), .ref a1]) (rest := []) (wr := [(a2, .inr (4, [.ref b2, .int (nI l2.length), .int o2])), (b2, .inl (kI, n2, .inl f2))]) ⟨hx, hb, hml, hown, hts⟩ (c_Reader_takeSixBits l D Z kI a0 a3 a1 b1 n1 H.size v0_firstHalf v3_value v3_held f1 l1 o1 (m_Letters_sixBitsOf (m_Row_get l2 i7)) hr1) (cw_Reader_takeSixBits hts k_448 ⟨Nat.le_of_ble_eq_true rfl, Nat.le_of_ble_eq_true rfl⟩) hK hZ hP hD hS hA [0, 3, 1, 2] [4, 5] (g_recv hK hP (ci := 3) (q0 := 0) rfl rfl) rfl rfl (by decide) (by decide) (by decide) rfl hl.1 rfl (Nat.le_of_ble_eq_true rfl) d_Reader_readUtf7_50 ⟨Nat.zero_le _, Nat.zero_le _⟩ (fun u_28 H locs hw hP hD hS => ?_)
            obtain ⟨v0_firstHalf_28, v2_value_28, v2_held_28, f1_28, l1_28, o1_28⟩ := u_28
            have e_28 := hw.1
            have hr1_28 := hw.2
            have hP : va_P D vwCl [(a2, .inr (4, [.ref b2, .int (nI l2.length), .int o2])), (b2, .inl (kI, n2, .inl f2)), (a0, .inr (3, [.ref a3, .int v0_firstHalf_28])), (a3, .inr (0, [.int v2_value_28, .int v2_held_28])), (a1, .inr (4, [.ref b1, .int (nI l1_28.length), .int o1_28])), (b1, .inl (kI, n1, .inl f1_28))] H := hP
            have hD : va_D A [(a2, .inr (4, [.ref b2, .int (nI l2.length), .int o2])), (b2, .inl (kI, n2, .inl f2)), (a0, .inr (3, [.ref a3, .int v0_firstHalf_28])), (a3, .inr (0, [.int v2_value_28, .int v2_held_28])), (a1, .inr (4, [.ref b1, .int (nI l1_28.length), .int o1_28])), (b1, .inl (kI, n1, .inl f1_28))] := hD
            rw [e_28] at hF; dsimp only at hF
            refine lv_iconst (v := 0) hx hb d_Reader_readUtf7_53 (by decide) ?_
            refine lv_istore (lv' := [(6, .int 0), (9, .int (m_Letters_sixBitsOf (m_Row_get l2 i7))), (8, .int (m_Row_get l2 i7)), (0, .ref a0), (1, .ref a2), (3, .int i3), (4, .ref a1), (5, .int i5), (7, .int i7)]) hx hb d_Reader_readUtf7_54 hl (by decide) rfl (fun ls hl => ?_)
            refine lv_goto (tgt := 153) hx hb d_Reader_readUtf7_56 (by decide) ?_
            refine lv_iinc (v := (i7 + 1)) (lv' := [(7, .int (i7 + 1)), (6, .int 0), (9, .int (m_Letters_sixBitsOf (m_Row_get l2 i7))), (8, .int (m_Row_get l2 i7)), (0, .ref a0), (1, .ref a2), (3, .int i3), (4, .ref a1), (5, .int i5)]) hx hb d_Reader_readUtf7_153 hl (k := 8) rfl rfl (by decide) rfl (fun ls hl => ?_)
            refine lv_goto (tgt := 9) hx hb d_Reader_readUtf7_156 (by decide) ?_
            exact ih9 i3 i5 0 (i7 + 1) v0_firstHalf_28 f1_28 l1_28 o1_28 v2_value_28 v2_held_28 hr1_28 _ _ _  (Nat.lt_of_lt_of_le (g_dec1 c_1) (Nat.le_of_lt_succ hn9)) hF (hP.sub [2, 4, 5, 0, 1, 3] rfl) (hD.sub [2, 4, 5, 0, 1, 3] (by decide) rfl) hS (lv_sub hl [4, 5, 6, 7, 8, 1, 0] rfl)
  have hF := hRES
  rw [m_Reader_readUtf7] at hF
  refine lv_iconst (v := 0) hx hb d_Reader_readUtf7_0 (by decide) ?_
  refine lv_istore (lv' := [(5, .int 0), (0, .ref a0), (1, .ref a2), (2, .int p2), (3, .int p3), (4, .ref a1)]) hx hb d_Reader_readUtf7_1 hl (by decide) rfl (fun ls hl => ?_)
  refine lv_iconst (v := 1) hx hb d_Reader_readUtf7_3 (by decide) ?_
  refine lv_istore (lv' := [(6, .int 1), (5, .int 0), (0, .ref a0), (1, .ref a2), (2, .int p2), (3, .int p3), (4, .ref a1)]) hx hb d_Reader_readUtf7_4 hl (by decide) rfl (fun ls hl => ?_)
  refine lv_iload_n hx hb d_Reader_readUtf7_6 rfl (lv_at hl 4 rfl) ?_
  refine lv_istore (lv' := [(7, .int p2), (6, .int 1), (5, .int 0), (0, .ref a0), (1, .ref a2), (2, .int p2), (3, .int p3), (4, .ref a1)]) hx hb d_Reader_readUtf7_7 hl (by decide) rfl (fun ls hl => ?_)
  exact lp9 ((p3.toInt - p2.toInt).toNat + 1) p3 0 1 p2 v0_firstHalf f1 l1 o1 v3_value v3_held hr1 _ _ _  (Nat.lt_succ_self _) hF hP hD hS (lv_sub hl [3, 4, 6, 7, 2, 1, 0] rfl)
theorem cw_Reader_readUtf7 {R : Room} {s : State} {args : Array Value} {own : String} {idx : Nat} (hts : ∀ w ∈ gW, w.before args s = true) (hl : Cond.methodLink own idx y_Reader_readUtf7 ∈ gW) (hR : rm_Reader_readUtf7.frames + 1 ≤ R.frames ∧ 8 + (11 + 11) + rm_Reader_readUtf7.locals ≤ R.locals) : CallW R s args own "MailCharacters$Reader" idx y_Reader_readUtf7 b_Reader_readUtf7 11 none w_Reader_readUtf7 rm_Reader_readUtf7 0 0 4 := cwV 4 hts (gW_V hl k_443 k_6 k_74 k_444) rfl rfl rfl (by decide +kernel) hR
def m_Reader_readSingleBytes_l3 (n1 : Nat) : Nat → Int32 → Int32 → Int32 → List Int32 → List Int32 → Int32 → List Int32 × Int32
  | 0, _, _, _, _, l1, o1 => (l1, o1)
  | nf3 + 1, i2, i3, i5, l0, l1, o1 =>
    if i2 ≤ i5 then
      (l1, o1)
    else
      match (m_Row_put n1 l1 o1 (m_SingleBytes_characterOf i3 (m_Row_get l0 i5))) with
      | (l0_4, o0_4) =>
        m_Reader_readSingleBytes_l3 n1 nf3 i2 i3 (i5 + 1) l0 l0_4 o0_4
def m_Reader_readSingleBytes (n1 : Nat) (l0 : List Int32) (l1 : List Int32) (o1 : Int32) (p1 : Int32) (p2 : Int32) (p3 : Int32) : List Int32 × Int32 :=
  m_Reader_readSingleBytes_l3 n1 ((p2.toInt - p1.toInt).toNat + 1) p2 p3 p1 l0 l1 o1
def rm_Reader_readSingleBytes : Room := { frames := 3, cells := 0, slots := 0, locals := 62 }
set_option maxHeartbeats 4000000 in
set_option maxRecDepth 100000 in
theorem c_Reader_readSingleBytes (l : Launch) (D : va_G) (Z : gZT) (kI : ClassId) (a0 : Nat) (b0 : Nat) (n0 : Nat) (a1 : Nat) (b1 : Nat) (n1 : Nat) (sz : Nat) (f0 : Nat → Int32) (l0 : List Int32) (o0 : Int32) (f1 : Nat → Int32) (l1 : List Int32) (o1 : Int32) (p1 : Int32) (p2 : Int32) (p3 : Int32) (hr0 : g_rw n0 f0 l0) (hr1 : g_rw n1 f1 l1) : gMv l y_Reader_readSingleBytes w_Reader_readSingleBytes rm_Reader_readSingleBytes D Z kI [.ref a0, .int p1, .int p2, .int p3, .ref a1] sz [(a0, .inr (4, [.ref b0, .int (nI l0.length), .int o0])), (b0, .inl (kI, n0, .inl f0)), (a1, .inr (4, [.ref b1, .int (nI l1.length), .int o1])), (b1, .inl (kI, n1, .inl f1))] (fun (u : (Nat → Int32) × List Int32 × Int32) => m_Reader_readSingleBytes n1 l0 l1 o1 p1 p2 p3 = (u.2.1, u.2.2) ∧ g_rw n1 u.1 u.2.1) (fun (u : (Nat → Int32) × List Int32 × Int32) => ([(a0, .inr (4, [.ref b0, .int (nI l0.length), .int o0])), (b0, .inl (kI, n0, .inl f0)), (a1, .inr (4, [.ref b1, .int (nI u.2.1.length), .int u.2.2])), (b1, .inl (kI, n1, .inl u.1))] : va_W)) := by
  refine g_ofv (cc := b_Reader_readSingleBytes) (maxL := 6) (by decide) rfl (Nat.le_of_ble_eq_true rfl) ?_
  intro p e s m below meth c A Q H ls hx hb hml hown hts hA hK hZ hP hD hS hl hret
  have hown : s.vm.findClass "MailCharacters$Reader" = some m.cls := hown
  have hl : lv_has ls 6 [(0, .ref a0), (1, .int p1), (2, .int p2), (3, .int p3), (4, .ref a1)] := hl
  obtain ⟨RES, hRES⟩ : ∃ z, z = m_Reader_readSingleBytes n1 l0 l1 o1 p1 p2 p3 := ⟨_, rfl⟩
  have lp3 : ∀ (nf3 : Nat) (i2 : Int32) (i3 : Int32) (i5 : Int32) (f1 : Nat → Int32) (l1 : List Int32) (o1 : Int32) (hr1 : g_rw n1 f1 l1) (H : Heap) (locs : List Loc) (ls : Array Slot), (i2.toInt - i5.toInt).toNat < nf3 → RES = m_Reader_readSingleBytes_l3 n1 nf3 i2 i3 i5 l0 l1 o1 → va_P D vwCl [(a0, .inr (4, [.ref b0, .int (nI l0.length), .int o0])), (b0, .inl (kI, n0, .inl f0)), (a1, .inr (4, [.ref b1, .int (nI l1.length), .int o1])), (b1, .inl (kI, n1, .inl f1))] H → va_D A [(a0, .inr (4, [.ref b0, .int (nI l0.length), .int o0])), (b0, .inl (kI, n0, .inl f0)), (a1, .inr (4, [.ref b1, .int (nI l1.length), .int o1])), (b1, .inl (kI, n1, .inl f1))] → va_S A s.heap H locs → lv_has ls 6 [(0, .ref a0), (2, .int i2), (3, .int i3), (4, .ref a1), (5, .int i5)] → W p l e rm_Reader_readSingleBytes s m ([.ref a0, .int p1, .int p2, .int p3, .ref a1] : List Value).toArray below meth c H locs 0 0 Q (F0 m 3 ls []) := by
    intro nf3
    induction nf3 with
    | zero => intro i2 i3 i5 f1 l1 o1 hr1 H locs ls hn3; exact absurd hn3 (Nat.not_lt_zero _)
    | succ nf3 ih3 =>
      intro i2 i3 i5 f1 l1 o1 hr1 H locs ls hn3 hF hP hD hS hl
      rw [m_Reader_readSingleBytes_l3] at hF
      refine lv_iload hx hb d_Reader_readSingleBytes_3 (lv_at hl 4 rfl) ?_
      refine lv_iload_n hx hb d_Reader_readSingleBytes_5 rfl (lv_at hl 1 rfl) ?_
      refine lv_icmp_ge (tgt := 30) hx hb d_Reader_readSingleBytes_6 (by decide) (fun c_1 => ?_) (fun c_1 => ?_)
      · rw [if_pos c_1] at hF
        exact hret (f1, l1, o1) _ _ _ _ d_Reader_readSingleBytes_30 (⟨hRES.symm.trans hF, hr1⟩) hP hD hS
      · rw [if_neg c_1] at hF
        refine lv_aload hx hb d_Reader_readSingleBytes_9 (lv_at hl 3 rfl) ?_
        refine lv_iload_n hx hb d_Reader_readSingleBytes_11 rfl (lv_at hl 2 rfl) ?_
        refine lv_aload_n hx hb d_Reader_readSingleBytes_12 rfl (lv_at hl 0 rfl) ?_
        refine lv_iload hx hb d_Reader_readSingleBytes_13 (lv_at hl 4 rfl) ?_
        refine g_Vi (As := [.int i5]) (rest := [.int i3, .ref a1]) (wr := [(a1, .inr (4, [.ref b1, .int (nI l1.length), .int o1])), (b1, .inl (kI, n1, .inl f1))]) ⟨hx, hb, hml, hown, hts⟩ (c_Row_get l D Z kI a0 b0 n0 H.size f0 l0 o0 i5 hr0) (cw_Row_get hts k_408 ⟨Nat.le_of_ble_eq_true rfl, Nat.le_of_ble_eq_true rfl⟩) hK hZ hP hD hS hA [0, 1] [2, 3] (g_recv hK hP (ci := 4) (q0 := 0) rfl rfl) rfl rfl (by decide) (by decide) (by decide) rfl hl.1 rfl (Nat.le_of_ble_eq_true rfl) d_Reader_readSingleBytes_15 ⟨Nat.zero_le _, Nat.zero_le _⟩ (fun r_2 u_2 H locs hw hP hD hS => ?_)
        have e_2 := hw
        subst e_2
        have hP : va_P D vwCl [(a1, .inr (4, [.ref b1, .int (nI l1.length), .int o1])), (b1, .inl (kI, n1, .inl f1)), (a0, .inr (4, [.ref b0, .int (nI l0.length), .int o0])), (b0, .inl (kI, n0, .inl f0))] H := hP
        have hD : va_D A [(a1, .inr (4, [.ref b1, .int (nI l1.length), .int o1])), (b1, .inl (kI, n1, .inl f1)), (a0, .inr (4, [.ref b0, .int (nI l0.length), .int o0])), (b0, .inl (kI, n0, .inl f0))] := hD
        refine g_Si (As := [.int i3, .int (m_Row_get l0 i5)]) (rest := [.ref a1]) (wr := [(a1, .inr (4, [.ref b1, .int (nI l1.length), .int o1])), (b1, .inl (kI, n1, .inl f1)), (a0, .inr (4, [.ref b0, .int (nI l0.length), .int o0])), (b0, .inl (kI, n0, .inl f0))]) ⟨hx, hb, hml, hown, hts⟩ (c_SingleBytes_characterOf l D Z kI H.size i3 (m_Row_get l0 i5)) (cw_SingleBytes_characterOf hts k_471 ⟨Nat.le_of_ble_eq_true rfl, Nat.le_of_ble_eq_true rfl⟩) hK hZ hP hD hS hA [] [0, 1, 2, 3] rfl rfl (by decide) (by decide) (by decide) rfl hl.1 rfl (Nat.le_of_ble_eq_true rfl) d_Reader_readSingleBytes_18 ⟨Nat.zero_le _, Nat.zero_le _⟩ (fun r_3 u_3 H locs hw hP hD hS => ?_)
        have e_3 := hw
        subst e_3
        have hP : va_P D vwCl [(a1, .inr (4, [.ref b1, .int (nI l1.length), .int o1])), (b1, .inl (kI, n1, .inl f1)), (a0, .inr (4, [.ref b0, .int (nI l0.length), .int o0])), (b0, .inl (kI, n0, .inl f0))] H := hP
        have hD : va_D A [(a1, .inr (4, [.ref b1, .int (nI l1.length), .int o1])), (b1, .inl (kI, n1, .inl f1)), (a0, .inr (4, [.ref b0, .int (nI l0.length), .int o0])), (b0, .inl (kI, n0, .inl f0))] := hD
        refine g_Vv (As := [.int (m_SingleBytes_characterOf i3 (m_Row_get l0 i5))]) (rest := []) (wr := [(a0, .inr (4, [.ref b0, .int (nI l0.length), .int o0])), (b0, .inl (kI, n0, .inl f0))]) ⟨hx, hb, hml, hown, hts⟩ (c_Row_put l D Z kI a1 b1 n1 H.size f1 l1 o1 (m_SingleBytes_characterOf i3 (m_Row_get l0 i5)) hr1) (cw_Row_put hts k_409 ⟨Nat.le_of_ble_eq_true rfl, Nat.le_of_ble_eq_true rfl⟩) hK hZ hP hD hS hA [0, 1] [2, 3] (g_recv hK hP (ci := 4) (q0 := 0) rfl rfl) rfl rfl (by decide) (by decide) (by decide) rfl hl.1 rfl (Nat.le_of_ble_eq_true rfl) d_Reader_readSingleBytes_21 ⟨Nat.zero_le _, Nat.zero_le _⟩ (fun u_4 H locs hw hP hD hS => ?_)
        obtain ⟨f0_4, l0_4, o0_4⟩ := u_4
        have e_4 := hw.1
        have hr0_4 := hw.2
        have hP : va_P D vwCl [(a0, .inr (4, [.ref b0, .int (nI l0.length), .int o0])), (b0, .inl (kI, n0, .inl f0)), (a1, .inr (4, [.ref b1, .int (nI l0_4.length), .int o0_4])), (b1, .inl (kI, n1, .inl f0_4))] H := hP
        have hD : va_D A [(a0, .inr (4, [.ref b0, .int (nI l0.length), .int o0])), (b0, .inl (kI, n0, .inl f0)), (a1, .inr (4, [.ref b1, .int (nI l0_4.length), .int o0_4])), (b1, .inl (kI, n1, .inl f0_4))] := hD
        rw [e_4] at hF; dsimp only at hF
        refine lv_iinc (v := (i5 + 1)) (lv' := [(5, .int (i5 + 1)), (0, .ref a0), (2, .int i2), (3, .int i3), (4, .ref a1)]) hx hb d_Reader_readSingleBytes_24 hl (k := 4) rfl rfl (by decide) rfl (fun ls hl => ?_)
        refine lv_goto (tgt := 3) hx hb d_Reader_readSingleBytes_27 (by decide) ?_
        exact ih3 i2 i3 (i5 + 1) f0_4 l0_4 o0_4 hr0_4 _ _ _  (Nat.lt_of_lt_of_le (g_dec1 c_1) (Nat.le_of_lt_succ hn3)) hF hP hD hS (lv_sub hl [1, 2, 3, 4, 0] rfl)
  have hF := hRES
  rw [m_Reader_readSingleBytes] at hF
  refine lv_iload_n hx hb d_Reader_readSingleBytes_0 rfl (lv_at hl 1 rfl) ?_
  refine lv_istore (lv' := [(5, .int p1), (0, .ref a0), (1, .int p1), (2, .int p2), (3, .int p3), (4, .ref a1)]) hx hb d_Reader_readSingleBytes_1 hl (by decide) rfl (fun ls hl => ?_)
  exact lp3 ((p2.toInt - p1.toInt).toNat + 1) p2 p3 p1 f1 l1 o1 hr1 _ _ _  (Nat.lt_succ_self _) hF hP hD hS (lv_sub hl [1, 3, 4, 5, 0] rfl)
theorem cw_Reader_readSingleBytes {R : Room} {s : State} {args : Array Value} {own : String} {idx : Nat} (hts : ∀ w ∈ gW, w.before args s = true) (hl : Cond.methodLink own idx y_Reader_readSingleBytes ∈ gW) (hR : rm_Reader_readSingleBytes.frames + 1 ≤ R.frames ∧ 8 + (6 + 11) + rm_Reader_readSingleBytes.locals ≤ R.locals) : CallB R s args own idx y_Reader_readSingleBytes b_Reader_readSingleBytes 6 none w_Reader_readSingleBytes rm_Reader_readSingleBytes 0 0 5 ∧ (Cond.static y_Reader_readSingleBytes).before args s = true := va_cwS 5 hts (gW_S hl k_469 k_74 k_470) rfl rfl rfl (by decide +kernel) hR
