def m_Reader_takeUnit (n1 : Nat) (v0_firstHalf : Int32) (l1 : List Int32) (o1 : Int32) (p1 : Int32) : Int32 × List Int32 × Int32 :=
  if p1 < 56320 then
    if v0_firstHalf = 0 then
      match (m_Reader_endUnits n1 v0_firstHalf l1 o1) with
      | (v0_firstHalf_3, l1_3, o1_3) =>
        if p1 < 55296 then
          match (m_Row_put n1 l1_3 o1_3 p1) with
          | (l1_6, o1_6) =>
            (v0_firstHalf_3, l1_6, o1_6)
        else
          if 56319 < p1 then
            match (m_Row_put n1 l1_3 o1_3 p1) with
            | (l1_9, o1_9) =>
              (v0_firstHalf_3, l1_9, o1_9)
          else
            (p1, l1_3, o1_3)
    else
      match (m_Reader_endUnits n1 v0_firstHalf l1 o1) with
      | (v0_firstHalf_11, l1_11, o1_11) =>
        if p1 < 55296 then
          match (m_Row_put n1 l1_11 o1_11 p1) with
          | (l1_14, o1_14) =>
            (v0_firstHalf_11, l1_14, o1_14)
        else
          if 56319 < p1 then
            match (m_Row_put n1 l1_11 o1_11 p1) with
            | (l1_17, o1_17) =>
              (v0_firstHalf_11, l1_17, o1_17)
          else
            (p1, l1_11, o1_11)
  else
    if 57343 < p1 then
      if v0_firstHalf = 0 then
        match (m_Reader_endUnits n1 v0_firstHalf l1 o1) with
        | (v0_firstHalf_20, l1_20, o1_20) =>
          if p1 < 55296 then
            match (m_Row_put n1 l1_20 o1_20 p1) with
            | (l1_23, o1_23) =>
              (v0_firstHalf_20, l1_23, o1_23)
          else
            if 56319 < p1 then
              match (m_Row_put n1 l1_20 o1_20 p1) with
              | (l1_26, o1_26) =>
                (v0_firstHalf_20, l1_26, o1_26)
            else
              (p1, l1_20, o1_20)
      else
        match (m_Reader_endUnits n1 v0_firstHalf l1 o1) with
        | (v0_firstHalf_28, l1_28, o1_28) =>
          if p1 < 55296 then
            match (m_Row_put n1 l1_28 o1_28 p1) with
            | (l1_31, o1_31) =>
              (v0_firstHalf_28, l1_31, o1_31)
          else
            if 56319 < p1 then
              match (m_Row_put n1 l1_28 o1_28 p1) with
              | (l1_34, o1_34) =>
                (v0_firstHalf_28, l1_34, o1_34)
            else
              (p1, l1_28, o1_28)
    else
      if v0_firstHalf = 0 then
        match (m_Reader_endUnits n1 v0_firstHalf l1 o1) with
        | (v0_firstHalf_36, l1_36, o1_36) =>
          if p1 < 55296 then
            match (m_Row_put n1 l1_36 o1_36 65533) with
            | (l1_39, o1_39) =>
              (v0_firstHalf_36, l1_39, o1_39)
          else
            if 56319 < p1 then
              match (m_Row_put n1 l1_36 o1_36 65533) with
              | (l1_42, o1_42) =>
                (v0_firstHalf_36, l1_42, o1_42)
            else
              (p1, l1_36, o1_36)
      else
        match (m_Row_put n1 l1 o1 (((65536 + ((v0_firstHalf - 55296) * 1024)) + p1) - 56320)) with
        | (l1_44, o1_44) =>
          (0, l1_44, o1_44)
def rm_Reader_takeUnit : Room := { frames := 2, cells := 0, slots := 0, locals := 42 }
set_option maxHeartbeats 4000000 in
set_option maxRecDepth 100000 in
theorem c_Reader_takeUnit (l : Launch) (D : va_G) (Z : gZT) (kI : ClassId) (a0 : Nat) (x0_bits : Nat) (a1 : Nat) (b1 : Nat) (n1 : Nat) (sz : Nat) (v0_firstHalf : Int32) (f1 : Nat → Int32) (l1 : List Int32) (o1 : Int32) (p1 : Int32) (hr1 : g_rw n1 f1 l1) : gMv l y_Reader_takeUnit w_Reader_takeUnit rm_Reader_takeUnit D Z kI [.ref a0, .int p1, .ref a1] sz [(a0, .inr (3, [.ref x0_bits, .int v0_firstHalf])), (a1, .inr (4, [.ref b1, .int (nI l1.length), .int o1])), (b1, .inl (kI, n1, .inl f1))] (fun (u : Int32 × (Nat → Int32) × List Int32 × Int32) => m_Reader_takeUnit n1 v0_firstHalf l1 o1 p1 = (u.1, u.2.2.1, u.2.2.2) ∧ g_rw n1 u.2.1 u.2.2.1) (fun (u : Int32 × (Nat → Int32) × List Int32 × Int32) => ([(a0, .inr (3, [.ref x0_bits, .int u.1])), (a1, .inr (4, [.ref b1, .int (nI u.2.2.1.length), .int u.2.2.2])), (b1, .inl (kI, n1, .inl u.2.1))] : va_W)) := by
  refine g_ofv (cc := b_Reader_takeUnit) (maxL := 4) (by decide) rfl (Nat.le_of_ble_eq_true rfl) ?_
  intro p e s m below meth c A Q H ls hx hb hml hown hts hA hK hZ hP hD hS hl hret
  have hown : s.vm.findClass "MailCharacters$Reader" = some m.cls := hown
  have hl : lv_has ls 4 [(0, .ref a0), (1, .int p1), (2, .ref a1)] := hl
  obtain ⟨RES, hRES⟩ : ∃ z, z = m_Reader_takeUnit n1 v0_firstHalf l1 o1 p1 := ⟨_, rfl⟩
  have hF := hRES
  rw [m_Reader_takeUnit] at hF
  refine lv_iload_n hx hb d_Reader_takeUnit_0 rfl (lv_at hl 1 rfl) ?_
  refine lv_ldc hx hb hown (hts _ k_432) d_Reader_takeUnit_1 ?_
  refine lv_icmp_lt (tgt := 16) hx hb d_Reader_takeUnit_3 (by decide) (fun c_1 => ?_) (fun c_1 => ?_)
  · rw [if_pos c_1] at hF
    refine lv_iconst (v := 0) hx hb d_Reader_takeUnit_16 (by decide) ?_
    refine lv_istore_n (lv' := [(3, .int 0), (0, .ref a0), (1, .int p1), (2, .ref a1)]) hx hb d_Reader_takeUnit_17 rfl hl (by decide) rfl (fun ls hl => ?_)
    refine lv_aload_n hx hb d_Reader_takeUnit_18 rfl (lv_at hl 1 rfl) ?_
    refine va_get (D := D) (ci := 3) (v := .int v0_firstHalf) (C := "MailCharacters$Reader") (T := F_Reader) (N := 2) hx hb hts i_Reader hown hK hP 0 rfl rfl 1 (by decide) (hts _ k_191) (fun _ h9 => h9) rfl d_Reader_takeUnit_19 ?_
    refine lv_if_eq (tgt := 58) hx hb d_Reader_takeUnit_22 (by decide) (fun c_2 => ?_) (fun c_2 => ?_)
    · rw [if_pos c_2] at hF
      refine lv_aload_n hx hb d_Reader_takeUnit_58 rfl (lv_at hl 1 rfl) ?_
      refine lv_aload_n hx hb d_Reader_takeUnit_59 rfl (lv_at hl 3 rfl) ?_
      refine g_Vv (As := [.ref a1]) (rest := []) (wr := []) ⟨hx, hb, hml, hown, hts⟩ (c_Reader_endUnits l D Z kI a0 x0_bits a1 b1 n1 H.size v0_firstHalf f1 l1 o1 hr1) (cw_Reader_endUnits hts k_436 ⟨Nat.le_of_ble_eq_true rfl, Nat.le_of_ble_eq_true rfl⟩) hK hZ hP hD hS hA [0, 1, 2] [] (g_recv hK hP (ci := 3) (q0 := 0) rfl rfl) rfl rfl (by decide) (by decide) (by decide) rfl hl.1 rfl (Nat.le_of_ble_eq_true rfl) d_Reader_takeUnit_60 ⟨Nat.zero_le _, Nat.zero_le _⟩ (fun u_3 H locs hw hP hD hS => ?_)
      obtain ⟨v0_firstHalf_3, f1_3, l1_3, o1_3⟩ := u_3
      have e_3 := hw.1
      have hr1_3 := hw.2
      have hP : va_P D vwCl [(a0, .inr (3, [.ref x0_bits, .int v0_firstHalf_3])), (a1, .inr (4, [.ref b1, .int (nI l1_3.length), .int o1_3])), (b1, .inl (kI, n1, .inl f1_3))] H := hP
      have hD : va_D A [(a0, .inr (3, [.ref x0_bits, .int v0_firstHalf_3])), (a1, .inr (4, [.ref b1, .int (nI l1_3.length), .int o1_3])), (b1, .inl (kI, n1, .inl f1_3))] := hD
      rw [e_3] at hF; dsimp only at hF
      refine lv_iload_n hx hb d_Reader_takeUnit_63 rfl (lv_at hl 2 rfl) ?_
      refine lv_ldc hx hb hown (hts _ k_435) d_Reader_takeUnit_64 ?_
      refine lv_icmp_lt (tgt := 83) hx hb d_Reader_takeUnit_66 (by decide) (fun c_4 => ?_) (fun c_4 => ?_)
      · rw [if_pos c_4] at hF
        refine lv_aload_n hx hb d_Reader_takeUnit_83 rfl (lv_at hl 3 rfl) ?_
        refine lv_iload_n hx hb d_Reader_takeUnit_84 rfl (lv_at hl 0 rfl) ?_
        refine lv_if_eq (tgt := 93) hx hb d_Reader_takeUnit_85 (by decide) (fun c_5 => ?_) (fun c_5 => ?_)
        · refine lv_iload_n hx hb d_Reader_takeUnit_93 rfl (lv_at hl 2 rfl) ?_
          refine g_Vv (As := [.int p1]) (rest := []) (wr := [(a0, .inr (3, [.ref x0_bits, .int v0_firstHalf_3]))]) ⟨hx, hb, hml, hown, hts⟩ (c_Row_put l D Z kI a1 b1 n1 H.size f1_3 l1_3 o1_3 p1 hr1_3) (cw_Row_put hts k_409 ⟨Nat.le_of_ble_eq_true rfl, Nat.le_of_ble_eq_true rfl⟩) hK hZ hP hD hS hA [1, 2] [0] (g_recv hK hP (ci := 4) (q0 := 1) rfl rfl) rfl rfl (by decide) (by decide) (by decide) rfl hl.1 rfl (Nat.le_of_ble_eq_true rfl) d_Reader_takeUnit_94 ⟨Nat.zero_le _, Nat.zero_le _⟩ (fun u_6 H locs hw hP hD hS => ?_)
          obtain ⟨f1_6, l1_6, o1_6⟩ := u_6
          have e_6 := hw.1
          have hr1_6 := hw.2
          have hP : va_P D vwCl [(a0, .inr (3, [.ref x0_bits, .int v0_firstHalf_3])), (a1, .inr (4, [.ref b1, .int (nI l1_6.length), .int o1_6])), (b1, .inl (kI, n1, .inl f1_6))] H := hP
          have hD : va_D A [(a0, .inr (3, [.ref x0_bits, .int v0_firstHalf_3])), (a1, .inr (4, [.ref b1, .int (nI l1_6.length), .int o1_6])), (b1, .inl (kI, n1, .inl f1_6))] := hD
          rw [e_6] at hF; dsimp only at hF
          exact hret (v0_firstHalf_3, f1_6, l1_6, o1_6) _ _ _ _ d_Reader_takeUnit_97 (⟨hRES.symm.trans hF, hr1_6⟩) hP hD hS
        · exact absurd c_5 (by decide)
      · rw [if_neg c_4] at hF
        refine lv_iload_n hx hb d_Reader_takeUnit_69 rfl (lv_at hl 2 rfl) ?_
        refine lv_ldc hx hb hown (hts _ k_440) d_Reader_takeUnit_70 ?_
        refine lv_icmp_gt (tgt := 83) hx hb d_Reader_takeUnit_72 (by decide) (fun c_7 => ?_) (fun c_7 => ?_)
        · rw [if_pos c_7] at hF
          refine lv_aload_n hx hb d_Reader_takeUnit_83 rfl (lv_at hl 3 rfl) ?_
          refine lv_iload_n hx hb d_Reader_takeUnit_84 rfl (lv_at hl 0 rfl) ?_
          refine lv_if_eq (tgt := 93) hx hb d_Reader_takeUnit_85 (by decide) (fun c_8 => ?_) (fun c_8 => ?_)
          · refine lv_iload_n hx hb d_Reader_takeUnit_93 rfl (lv_at hl 2 rfl) ?_
            refine g_Vv (As := [.int p1]) (rest := []) (wr := [(a0, .inr (3, [.ref x0_bits, .int v0_firstHalf_3]))]) ⟨hx, hb, hml, hown, hts⟩ (c_Row_put l D Z kI a1 b1 n1 H.size f1_3 l1_3 o1_3 p1 hr1_3) (cw_Row_put hts k_409 ⟨Nat.le_of_ble_eq_true rfl, Nat.le_of_ble_eq_true rfl⟩) hK hZ hP hD hS hA [1, 2] [0] (g_recv hK hP (ci := 4) (q0 := 1) rfl rfl) rfl rfl (by decide) (by decide) (by decide) rfl hl.1 rfl (Nat.le_of_ble_eq_true rfl) d_Reader_takeUnit_94 ⟨Nat.zero_le _, Nat.zero_le _⟩ (fun u_9 H locs hw hP hD hS => ?_)
            obtain ⟨f1_9, l1_9, o1_9⟩ := u_9
            have e_9 := hw.1
            have hr1_9 := hw.2
            have hP : va_P D vwCl [(a0, .inr (3, [.ref x0_bits, .int v0_firstHalf_3])), (a1, .inr (4, [.ref b1, .int (nI l1_9.length), .int o1_9])), (b1, .inl (kI, n1, .inl f1_9))] H := hP
            have hD : va_D A [(a0, .inr (3, [.ref x0_bits, .int v0_firstHalf_3])), (a1, .inr (4, [.ref b1, .int (nI l1_9.length), .int o1_9])), (b1, .inl (kI, n1, .inl f1_9))] := hD
            rw [e_9] at hF; dsimp only at hF
            exact hret (v0_firstHalf_3, f1_9, l1_9, o1_9) _ _ _ _ d_Reader_takeUnit_97 (⟨hRES.symm.trans hF, hr1_9⟩) hP hD hS
          · exact absurd c_8 (by decide)
        · rw [if_neg c_7] at hF
          refine lv_aload_n hx hb d_Reader_takeUnit_75 rfl (lv_at hl 1 rfl) ?_
          refine lv_iload_n hx hb d_Reader_takeUnit_76 rfl (lv_at hl 2 rfl) ?_
          refine va_put (D := D) (ci := 3) (v := .int p1) (ty := .int) (C := "MailCharacters$Reader") (T := F_Reader) (N := 2) hx hb hts i_Reader t_Reader t_Reader_ok n_Reader hown hK hP hD hS 0 rfl rfl 1 (by decide) (hts _ k_191) (fun _ h9 => h9) rfl (by decide +kernel) rfl rfl (Nat.le_of_ble_eq_true rfl) d_Reader_takeUnit_77 (fun H locs hP hD hS => ?_)
          have hP : va_P D vwCl [(a0, .inr (3, [.ref x0_bits, .int p1])), (a1, .inr (4, [.ref b1, .int (nI l1_3.length), .int o1_3])), (b1, .inl (kI, n1, .inl f1_3))] H := hP
          have hD : va_D A [(a0, .inr (3, [.ref x0_bits, .int p1])), (a1, .inr (4, [.ref b1, .int (nI l1_3.length), .int o1_3])), (b1, .inl (kI, n1, .inl f1_3))] := hD
          refine lv_goto (tgt := 97) hx hb d_Reader_takeUnit_80 (by decide) ?_
          exact hret (p1, f1_3, l1_3, o1_3) _ _ _ _ d_Reader_takeUnit_97 (⟨hRES.symm.trans hF, hr1_3⟩) hP hD hS
    · rw [if_neg c_2] at hF
      refine lv_iload_n hx hb d_Reader_takeUnit_25 rfl (lv_at hl 0 rfl) ?_
      refine lv_if_eq (tgt := 58) hx hb d_Reader_takeUnit_26 (by decide) (fun c_10 => ?_) (fun c_10 => ?_)
      · refine lv_aload_n hx hb d_Reader_takeUnit_58 rfl (lv_at hl 1 rfl) ?_
        refine lv_aload_n hx hb d_Reader_takeUnit_59 rfl (lv_at hl 3 rfl) ?_
        refine g_Vv (As := [.ref a1]) (rest := []) (wr := []) ⟨hx, hb, hml, hown, hts⟩ (c_Reader_endUnits l D Z kI a0 x0_bits a1 b1 n1 H.size v0_firstHalf f1 l1 o1 hr1) (cw_Reader_endUnits hts k_436 ⟨Nat.le_of_ble_eq_true rfl, Nat.le_of_ble_eq_true rfl⟩) hK hZ hP hD hS hA [0, 1, 2] [] (g_recv hK hP (ci := 3) (q0 := 0) rfl rfl) rfl rfl (by decide) (by decide) (by decide) rfl hl.1 rfl (Nat.le_of_ble_eq_true rfl) d_Reader_takeUnit_60 ⟨Nat.zero_le _, Nat.zero_le _⟩ (fun u_11 H locs hw hP hD hS => ?_)
        obtain ⟨v0_firstHalf_11, f1_11, l1_11, o1_11⟩ := u_11
        have e_11 := hw.1
        have hr1_11 := hw.2
        have hP : va_P D vwCl [(a0, .inr (3, [.ref x0_bits, .int v0_firstHalf_11])), (a1, .inr (4, [.ref b1, .int (nI l1_11.length), .int o1_11])), (b1, .inl (kI, n1, .inl f1_11))] H := hP
        have hD : va_D A [(a0, .inr (3, [.ref x0_bits, .int v0_firstHalf_11])), (a1, .inr (4, [.ref b1, .int (nI l1_11.length), .int o1_11])), (b1, .inl (kI, n1, .inl f1_11))] := hD
        rw [e_11] at hF; dsimp only at hF
        refine lv_iload_n hx hb d_Reader_takeUnit_63 rfl (lv_at hl 2 rfl) ?_
        refine lv_ldc hx hb hown (hts _ k_435) d_Reader_takeUnit_64 ?_
        refine lv_icmp_lt (tgt := 83) hx hb d_Reader_takeUnit_66 (by decide) (fun c_12 => ?_) (fun c_12 => ?_)
        · rw [if_pos c_12] at hF
          refine lv_aload_n hx hb d_Reader_takeUnit_83 rfl (lv_at hl 3 rfl) ?_
          refine lv_iload_n hx hb d_Reader_takeUnit_84 rfl (lv_at hl 0 rfl) ?_
          refine lv_if_eq (tgt := 93) hx hb d_Reader_takeUnit_85 (by decide) (fun c_13 => ?_) (fun c_13 => ?_)
          · refine lv_iload_n hx hb d_Reader_takeUnit_93 rfl (lv_at hl 2 rfl) ?_
            refine g_Vv (As := [.int p1]) (rest := []) (wr := [(a0, .inr (3, [.ref x0_bits, .int v0_firstHalf_11]))]) ⟨hx, hb, hml, hown, hts⟩ (c_Row_put l D Z kI a1 b1 n1 H.size f1_11 l1_11 o1_11 p1 hr1_11) (cw_Row_put hts k_409 ⟨Nat.le_of_ble_eq_true rfl, Nat.le_of_ble_eq_true rfl⟩) hK hZ hP hD hS hA [1, 2] [0] (g_recv hK hP (ci := 4) (q0 := 1) rfl rfl) rfl rfl (by decide) (by decide) (by decide) rfl hl.1 rfl (Nat.le_of_ble_eq_true rfl) d_Reader_takeUnit_94 ⟨Nat.zero_le _, Nat.zero_le _⟩ (fun u_14 H locs hw hP hD hS => ?_)
            obtain ⟨f1_14, l1_14, o1_14⟩ := u_14
            have e_14 := hw.1
            have hr1_14 := hw.2
            have hP : va_P D vwCl [(a0, .inr (3, [.ref x0_bits, .int v0_firstHalf_11])), (a1, .inr (4, [.ref b1, .int (nI l1_14.length), .int o1_14])), (b1, .inl (kI, n1, .inl f1_14))] H := hP
            have hD : va_D A [(a0, .inr (3, [.ref x0_bits, .int v0_firstHalf_11])), (a1, .inr (4, [.ref b1, .int (nI l1_14.length), .int o1_14])), (b1, .inl (kI, n1, .inl f1_14))] := hD
            rw [e_14] at hF; dsimp only at hF
            exact hret (v0_firstHalf_11, f1_14, l1_14, o1_14) _ _ _ _ d_Reader_takeUnit_97 (⟨hRES.symm.trans hF, hr1_14⟩) hP hD hS
          · exact absurd c_13 (by decide)
        · rw [if_neg c_12] at hF
          refine lv_iload_n hx hb d_Reader_takeUnit_69 rfl (lv_at hl 2 rfl) ?_
          refine lv_ldc hx hb hown (hts _ k_440) d_Reader_takeUnit_70 ?_
          refine lv_icmp_gt (tgt := 83) hx hb d_Reader_takeUnit_72 (by decide) (fun c_15 => ?_) (fun c_15 => ?_)
          · rw [if_pos c_15] at hF
            refine lv_aload_n hx hb d_Reader_takeUnit_83 rfl (lv_at hl 3 rfl) ?_
            refine lv_iload_n hx hb d_Reader_takeUnit_84 rfl (lv_at hl 0 rfl) ?_
            refine lv_if_eq (tgt := 93) hx hb d_Reader_takeUnit_85 (by decide) (fun c_16 => ?_) (fun c_16 => ?_)
            · refine lv_iload_n hx hb d_Reader_takeUnit_93 rfl (lv_at hl 2 rfl) ?_
              refine g_Vv (As := [.int p1]) (rest := []) (wr := [(a0, .inr (3, [.ref x0_bits, .int v0_firstHalf_11]))]) ⟨hx, hb, hml, hown, hts⟩ (c_Row_put l D Z kI a1 b1 n1 H.size f1_11 l1_11 o1_11 p1 hr1_11) (cw_Row_put hts k_409 ⟨Nat.le_of_ble_eq_true rfl, Nat.le_of_ble_eq_true rfl⟩) hK hZ hP hD hS hA [1, 2] [0] (g_recv hK hP (ci := 4) (q0 := 1) rfl rfl) rfl rfl (by decide) (by decide) (by decide) rfl hl.1 rfl (Nat.le_of_ble_eq_true rfl) d_Reader_takeUnit_94 ⟨Nat.zero_le _, Nat.zero_le _⟩ (fun u_17 H locs hw hP hD hS => ?_)
              obtain ⟨f1_17, l1_17, o1_17⟩ := u_17
              have e_17 := hw.1
              have hr1_17 := hw.2
              have hP : va_P D vwCl [(a0, .inr (3, [.ref x0_bits, .int v0_firstHalf_11])), (a1, .inr (4, [.ref b1, .int (nI l1_17.length), .int o1_17])), (b1, .inl (kI, n1, .inl f1_17))] H := hP
              have hD : va_D A [(a0, .inr (3, [.ref x0_bits, .int v0_firstHalf_11])), (a1, .inr (4, [.ref b1, .int (nI l1_17.length), .int o1_17])), (b1, .inl (kI, n1, .inl f1_17))] := hD
              rw [e_17] at hF; dsimp only at hF
              exact hret (v0_firstHalf_11, f1_17, l1_17, o1_17) _ _ _ _ d_Reader_takeUnit_97 (⟨hRES.symm.trans hF, hr1_17⟩) hP hD hS
            · exact absurd c_16 (by decide)
          · rw [if_neg c_15] at hF
            refine lv_aload_n hx hb d_Reader_takeUnit_75 rfl (lv_at hl 1 rfl) ?_
            refine lv_iload_n hx hb d_Reader_takeUnit_76 rfl (lv_at hl 2 rfl) ?_
            refine va_put (D := D) (ci := 3) (v := .int p1) (ty := .int) (C := "MailCharacters$Reader") (T := F_Reader) (N := 2) hx hb hts i_Reader t_Reader t_Reader_ok n_Reader hown hK hP hD hS 0 rfl rfl 1 (by decide) (hts _ k_191) (fun _ h9 => h9) rfl (by decide +kernel) rfl rfl (Nat.le_of_ble_eq_true rfl) d_Reader_takeUnit_77 (fun H locs hP hD hS => ?_)
            have hP : va_P D vwCl [(a0, .inr (3, [.ref x0_bits, .int p1])), (a1, .inr (4, [.ref b1, .int (nI l1_11.length), .int o1_11])), (b1, .inl (kI, n1, .inl f1_11))] H := hP
            have hD : va_D A [(a0, .inr (3, [.ref x0_bits, .int p1])), (a1, .inr (4, [.ref b1, .int (nI l1_11.length), .int o1_11])), (b1, .inl (kI, n1, .inl f1_11))] := hD
            refine lv_goto (tgt := 97) hx hb d_Reader_takeUnit_80 (by decide) ?_
            exact hret (p1, f1_11, l1_11, o1_11) _ _ _ _ d_Reader_takeUnit_97 (⟨hRES.symm.trans hF, hr1_11⟩) hP hD hS
      · exact absurd c_10 (by decide)
  · rw [if_neg c_1] at hF
    refine lv_iload_n hx hb d_Reader_takeUnit_6 rfl (lv_at hl 1 rfl) ?_
    refine lv_ldc hx hb hown (hts _ k_433) d_Reader_takeUnit_7 ?_
    refine lv_icmp_gt (tgt := 16) hx hb d_Reader_takeUnit_9 (by decide) (fun c_18 => ?_) (fun c_18 => ?_)
    · rw [if_pos c_18] at hF
      refine lv_iconst (v := 0) hx hb d_Reader_takeUnit_16 (by decide) ?_
      refine lv_istore_n (lv' := [(3, .int 0), (0, .ref a0), (1, .int p1), (2, .ref a1)]) hx hb d_Reader_takeUnit_17 rfl hl (by decide) rfl (fun ls hl => ?_)
      refine lv_aload_n hx hb d_Reader_takeUnit_18 rfl (lv_at hl 1 rfl) ?_
      refine va_get (D := D) (ci := 3) (v := .int v0_firstHalf) (C := "MailCharacters$Reader") (T := F_Reader) (N := 2) hx hb hts i_Reader hown hK hP 0 rfl rfl 1 (by decide) (hts _ k_191) (fun _ h9 => h9) rfl d_Reader_takeUnit_19 ?_
      refine lv_if_eq (tgt := 58) hx hb d_Reader_takeUnit_22 (by decide) (fun c_19 => ?_) (fun c_19 => ?_)
      · rw [if_pos c_19] at hF
        refine lv_aload_n hx hb d_Reader_takeUnit_58 rfl (lv_at hl 1 rfl) ?_
        refine lv_aload_n hx hb d_Reader_takeUnit_59 rfl (lv_at hl 3 rfl) ?_
        refine g_Vv (As := [.ref a1]) (rest := []) (wr := []) ⟨hx, hb, hml, hown, hts⟩ (c_Reader_endUnits l D Z kI a0 x0_bits a1 b1 n1 H.size v0_firstHalf f1 l1 o1 hr1) (cw_Reader_endUnits hts k_436 ⟨Nat.le_of_ble_eq_true rfl, Nat.le_of_ble_eq_true rfl⟩) hK hZ hP hD hS hA [0, 1, 2] [] (g_recv hK hP (ci := 3) (q0 := 0) rfl rfl) rfl rfl (by decide) (by decide) (by decide) rfl hl.1 rfl (Nat.le_of_ble_eq_true rfl) d_Reader_takeUnit_60 ⟨Nat.zero_le _, Nat.zero_le _⟩ (fun u_20 H locs hw hP hD hS => ?_)
        obtain ⟨v0_firstHalf_20, f1_20, l1_20, o1_20⟩ := u_20
        have e_20 := hw.1
        have hr1_20 := hw.2
        have hP : va_P D vwCl [(a0, .inr (3, [.ref x0_bits, .int v0_firstHalf_20])), (a1, .inr (4, [.ref b1, .int (nI l1_20.length), .int o1_20])), (b1, .inl (kI, n1, .inl f1_20))] H := hP
        have hD : va_D A [(a0, .inr (3, [.ref x0_bits, .int v0_firstHalf_20])), (a1, .inr (4, [.ref b1, .int (nI l1_20.length), .int o1_20])), (b1, .inl (kI, n1, .inl f1_20))] := hD
        rw [e_20] at hF; dsimp only at hF
        refine lv_iload_n hx hb d_Reader_takeUnit_63 rfl (lv_at hl 2 rfl) ?_
        refine lv_ldc hx hb hown (hts _ k_435) d_Reader_takeUnit_64 ?_
        refine lv_icmp_lt (tgt := 83) hx hb d_Reader_takeUnit_66 (by decide) (fun c_21 => ?_) (fun c_21 => ?_)
        · rw [if_pos c_21] at hF
          refine lv_aload_n hx hb d_Reader_takeUnit_83 rfl (lv_at hl 3 rfl) ?_
          refine lv_iload_n hx hb d_Reader_takeUnit_84 rfl (lv_at hl 0 rfl) ?_
          refine lv_if_eq (tgt := 93) hx hb d_Reader_takeUnit_85 (by decide) (fun c_22 => ?_) (fun c_22 => ?_)
          · refine lv_iload_n hx hb d_Reader_takeUnit_93 rfl (lv_at hl 2 rfl) ?_
            refine g_Vv (As := [.int p1]) (rest := []) (wr := [(a0, .inr (3, [.ref x0_bits, .int v0_firstHalf_20]))]) ⟨hx, hb, hml, hown, hts⟩ (c_Row_put l D Z kI a1 b1 n1 H.size f1_20 l1_20 o1_20 p1 hr1_20) (cw_Row_put hts k_409 ⟨Nat.le_of_ble_eq_true rfl, Nat.le_of_ble_eq_true rfl⟩) hK hZ hP hD hS hA [1, 2] [0] (g_recv hK hP (ci := 4) (q0 := 1) rfl rfl) rfl rfl (by decide) (by decide) (by decide) rfl hl.1 rfl (Nat.le_of_ble_eq_true rfl) d_Reader_takeUnit_94 ⟨Nat.zero_le _, Nat.zero_le _⟩ (fun u_23 H locs hw hP hD hS => ?_)
            obtain ⟨f1_23, l1_23, o1_23⟩ := u_23
            have e_23 := hw.1
            have hr1_23 := hw.2
            have hP : va_P D vwCl [(a0, .inr (3, [.ref x0_bits, .int v0_firstHalf_20])), (a1, .inr (4, [.ref b1, .int (nI l1_23.length), .int o1_23])), (b1, .inl (kI, n1, .inl f1_23))] H := hP
            have hD : va_D A [(a0, .inr (3, [.ref x0_bits, .int v0_firstHalf_20])), (a1, .inr (4, [.ref b1, .int (nI l1_23.length), .int o1_23])), (b1, .inl (kI, n1, .inl f1_23))] := hD
            rw [e_23] at hF; dsimp only at hF
            exact hret (v0_firstHalf_20, f1_23, l1_23, o1_23) _ _ _ _ d_Reader_takeUnit_97 (⟨hRES.symm.trans hF, hr1_23⟩) hP hD hS
          · exact absurd c_22 (by decide)
        · rw [if_neg c_21] at hF
          refine lv_iload_n hx hb d_Reader_takeUnit_69 rfl (lv_at hl 2 rfl) ?_
          refine lv_ldc hx hb hown (hts _ k_440) d_Reader_takeUnit_70 ?_
          refine lv_icmp_gt (tgt := 83) hx hb d_Reader_takeUnit_72 (by decide) (fun c_24 => ?_) (fun c_24 => ?_)
          · rw [if_pos c_24] at hF
            refine lv_aload_n hx hb d_Reader_takeUnit_83 rfl (lv_at hl 3 rfl) ?_
            refine lv_iload_n hx hb d_Reader_takeUnit_84 rfl (lv_at hl 0 rfl) ?_
            refine lv_if_eq (tgt := 93) hx hb d_Reader_takeUnit_85 (by decide) (fun c_25 => ?_) (fun c_25 => ?_)
            · refine lv_iload_n hx hb d_Reader_takeUnit_93 rfl (lv_at hl 2 rfl) ?_
              refine g_Vv (As := [.int p1]) (rest := []) (wr := [(a0, .inr (3, [.ref x0_bits, .int v0_firstHalf_20]))]) ⟨hx, hb, hml, hown, hts⟩ (c_Row_put l D Z kI a1 b1 n1 H.size f1_20 l1_20 o1_20 p1 hr1_20) (cw_Row_put hts k_409 ⟨Nat.le_of_ble_eq_true rfl, Nat.le_of_ble_eq_true rfl⟩) hK hZ hP hD hS hA [1, 2] [0] (g_recv hK hP (ci := 4) (q0 := 1) rfl rfl) rfl rfl (by decide) (by decide) (by decide) rfl hl.1 rfl (Nat.le_of_ble_eq_true rfl) d_Reader_takeUnit_94 ⟨Nat.zero_le _, Nat.zero_le _⟩ (fun u_26 H locs hw hP hD hS => ?_)
              obtain ⟨f1_26, l1_26, o1_26⟩ := u_26
              have e_26 := hw.1
              have hr1_26 := hw.2
              have hP : va_P D vwCl [(a0, .inr (3, [.ref x0_bits, .int v0_firstHalf_20])), (a1, .inr (4, [.ref b1, .int (nI l1_26.length), .int o1_26])), (b1, .inl (kI, n1, .inl f1_26))] H := hP
              have hD : va_D A [(a0, .inr (3, [.ref x0_bits, .int v0_firstHalf_20])), (a1, .inr (4, [.ref b1, .int (nI l1_26.length), .int o1_26])), (b1, .inl (kI, n1, .inl f1_26))] := hD
              rw [e_26] at hF; dsimp only at hF
              exact hret (v0_firstHalf_20, f1_26, l1_26, o1_26) _ _ _ _ d_Reader_takeUnit_97 (⟨hRES.symm.trans hF, hr1_26⟩) hP hD hS
            · exact absurd c_25 (by decide)
          · rw [if_neg c_24] at hF
            refine lv_aload_n hx hb d_Reader_takeUnit_75 rfl (lv_at hl 1 rfl) ?_
            refine lv_iload_n hx hb d_Reader_takeUnit_76 rfl (lv_at hl 2 rfl) ?_
            refine va_put (D := D) (ci := 3) (v := .int p1) (ty := .int) (C := "MailCharacters$Reader") (T := F_Reader) (N := 2) hx hb hts i_Reader t_Reader t_Reader_ok n_Reader hown hK hP hD hS 0 rfl rfl 1 (by decide) (hts _ k_191) (fun _ h9 => h9) rfl (by decide +kernel) rfl rfl (Nat.le_of_ble_eq_true rfl) d_Reader_takeUnit_77 (fun H locs hP hD hS => ?_)
            have hP : va_P D vwCl [(a0, .inr (3, [.ref x0_bits, .int p1])), (a1, .inr (4, [.ref b1, .int (nI l1_20.length), .int o1_20])), (b1, .inl (kI, n1, .inl f1_20))] H := hP
            have hD : va_D A [(a0, .inr (3, [.ref x0_bits, .int p1])), (a1, .inr (4, [.ref b1, .int (nI l1_20.length), .int o1_20])), (b1, .inl (kI, n1, .inl f1_20))] := hD
            refine lv_goto (tgt := 97) hx hb d_Reader_takeUnit_80 (by decide) ?_
            exact hret (p1, f1_20, l1_20, o1_20) _ _ _ _ d_Reader_takeUnit_97 (⟨hRES.symm.trans hF, hr1_20⟩) hP hD hS
      · rw [if_neg c_19] at hF
        refine lv_iload_n hx hb d_Reader_takeUnit_25 rfl (lv_at hl 0 rfl) ?_
        refine lv_if_eq (tgt := 58) hx hb d_Reader_takeUnit_26 (by decide) (fun c_27 => ?_) (fun c_27 => ?_)
        · refine lv_aload_n hx hb d_Reader_takeUnit_58 rfl (lv_at hl 1 rfl) ?_
          refine lv_aload_n hx hb d_Reader_takeUnit_59 rfl (lv_at hl 3 rfl) ?_
          refine g_Vv (As := [.ref a1]) (rest := []) (wr := []) ⟨hx, hb, hml, hown, hts⟩ (c_Reader_endUnits l D Z kI a0 x0_bits a1 b1 n1 H.size v0_firstHalf f1 l1 o1 hr1) (cw_Reader_endUnits hts k_436 ⟨Nat.le_of_ble_eq_true rfl, Nat.le_of_ble_eq_true rfl⟩) hK hZ hP hD hS hA [0, 1, 2] [] (g_recv hK hP (ci := 3) (q0 := 0) rfl rfl) rfl rfl (by decide) (by decide) (by decide) rfl hl.1 rfl (Nat.le_of_ble_eq_true rfl) d_Reader_takeUnit_60 ⟨Nat.zero_le _, Nat.zero_le _⟩ (fun u_28 H locs hw hP hD hS => ?_)
          obtain ⟨v0_firstHalf_28, f1_28, l1_28, o1_28⟩ := u_28
          have e_28 := hw.1
          have hr1_28 := hw.2
          have hP : va_P D vwCl [(a0, .inr (3, [.ref x0_bits, .int v0_firstHalf_28])), (a1, .inr (4, [.ref b1, .int (nI l1_28.length), .int o1_28])), (b1, .inl (kI, n1, .inl f1_28))] H := hP
          have hD : va_D A [(a0, .inr (3, [.ref x0_bits, .int v0_firstHalf_28])), (a1, .inr (4, [.ref b1, .int (nI l1_28.length), .int o1_28])), (b1, .inl (kI, n1, .inl f1_28))] := hD
          rw [e_28] at hF; dsimp only at hF
          refine lv_iload_n hx hb d_Reader_takeUnit_63 rfl (lv_at hl 2 rfl) ?_
          refine lv_ldc hx hb hown (hts _ k_435) d_Reader_takeUnit_64 ?_
          refine lv_icmp_lt (tgt := 83) hx hb d_Reader_takeUnit_66 (by decide) (fun c_29 => ?_) (fun c_29 => ?_)
          · rw [if_pos c_29] at hF
            refine lv_aload_n hx hb d_Reader_takeUnit_83 rfl (lv_at hl 3 rfl) ?_
            refine lv_iload_n hx hb d_Reader_takeUnit_84 rfl (lv_at hl 0 rfl) ?_
            refine lv_if_eq (tgt := 93) hx hb d_Reader_takeUnit_85 (by decide) (fun c_30 => ?_) (fun c_30 => ?_)
            · refine lv_iload_n hx hb d_Reader_takeUnit_93 rfl (lv_at hl 2 rfl) ?_
              refine g_Vv (As := [.int p1]) (rest := []) (wr := [(a0, .inr (3, [.ref x0_bits, .int v0_firstHalf_28]))]) ⟨hx, hb, hml, hown, hts⟩ (c_Row_put l D Z kI a1 b1 n1 H.size f1_28 l1_28 o1_28 p1 hr1_28) (cw_Row_put hts k_409 ⟨Nat.le_of_ble_eq_true rfl, Nat.le_of_ble_eq_true rfl⟩) hK hZ hP hD hS hA [1, 2] [0] (g_recv hK hP (ci := 4) (q0 := 1) rfl rfl) rfl rfl (by decide) (by decide) (by decide) rfl hl.1 rfl (Nat.le_of_ble_eq_true rfl) d_Reader_takeUnit_94 ⟨Nat.zero_le _, Nat.zero_le _⟩ (fun u_31 H locs hw hP hD hS => ?_)
              obtain ⟨f1_31, l1_31, o1_31⟩ := u_31
              have e_31 := hw.1
              have hr1_31 := hw.2
              have hP : va_P D vwCl [(a0, .inr (3, [.ref x0_bits, .int v0_firstHalf_28])), (a1, .inr (4, [.ref b1, .int (nI l1_31.length), .int o1_31])), (b1, .inl (kI, n1, .inl f1_31))] H := hP
              have hD : va_D A [(a0, .inr (3, [.ref x0_bits, .int v0_firstHalf_28])), (a1, .inr (4, [.ref b1, .int (nI l1_31.length), .int o1_31])), (b1, .inl (kI, n1, .inl f1_31))] := hD
              rw [e_31] at hF; dsimp only at hF
              exact hret (v0_firstHalf_28, f1_31, l1_31, o1_31) _ _ _ _ d_Reader_takeUnit_97 (⟨hRES.symm.trans hF, hr1_31⟩) hP hD hS
            · exact absurd c_30 (by decide)
          · rw [if_neg c_29] at hF
            refine lv_iload_n hx hb d_Reader_takeUnit_69 rfl (lv_at hl 2 rfl) ?_
            refine lv_ldc hx hb hown (hts _ k_440) d_Reader_takeUnit_70 ?_
            refine lv_icmp_gt (tgt := 83) hx hb d_Reader_takeUnit_72 (by decide) (fun c_32 => ?_) (fun c_32 => ?_)
            · rw [if_pos c_32] at hF
              refine lv_aload_n hx hb d_Reader_takeUnit_83 rfl (lv_at hl 3 rfl) ?_
              refine lv_iload_n hx hb d_Reader_takeUnit_84 rfl (lv_at hl 0 rfl) ?_
              refine lv_if_eq (tgt := 93) hx hb d_Reader_takeUnit_85 (by decide) (fun c_33 => ?_) (fun c_33 => ?_)
              · refine lv_iload_n hx hb d_Reader_takeUnit_93 rfl (lv_at hl 2 rfl) ?_
                refine g_Vv (As := [.int p1]) (rest := []) (wr := [(a0, .inr (3, [.ref x0_bits, .int v0_firstHalf_28]))]) ⟨hx, hb, hml, hown, hts⟩ (c_Row_put l D Z kI a1 b1 n1 H.size f1_28 l1_28 o1_28 p1 hr1_28) (cw_Row_put hts k_409 ⟨Nat.le_of_ble_eq_true rfl, Nat.le_of_ble_eq_true rfl⟩) hK hZ hP hD hS hA [1, 2] [0] (g_recv hK hP (ci := 4) (q0 := 1) rfl rfl) rfl rfl (by decide) (by decide) (by decide) rfl hl.1 rfl (Nat.le_of_ble_eq_true rfl) d_Reader_takeUnit_94 ⟨Nat.zero_le _, Nat.zero_le _⟩ (fun u_34 H locs hw hP hD hS => ?_)
                obtain ⟨f1_34, l1_34, o1_34⟩ := u_34
                have e_34 := hw.1
                have hr1_34 := hw.2
                have hP : va_P D vwCl [(a0, .inr (3, [.ref x0_bits, .int v0_firstHalf_28])), (a1, .inr (4, [.ref b1, .int (nI l1_34.length), .int o1_34])), (b1, .inl (kI, n1, .inl f1_34))] H := hP
                have hD : va_D A [(a0, .inr (3, [.ref x0_bits, .int v0_firstHalf_28])), (a1, .inr (4, [.ref b1, .int (nI l1_34.length), .int o1_34])), (b1, .inl (kI, n1, .inl f1_34))] := hD
                rw [e_34] at hF; dsimp only at hF
                exact hret (v0_firstHalf_28, f1_34, l1_34, o1_34) _ _ _ _ d_Reader_takeUnit_97 (⟨hRES.symm.trans hF, hr1_34⟩) hP hD hS
              · exact absurd c_33 (by decide)
            · rw [if_neg c_32] at hF
              refine lv_aload_n hx hb d_Reader_takeUnit_75 rfl (lv_at hl 1 rfl) ?_
              refine lv_iload_n hx hb d_Reader_takeUnit_76 rfl (lv_at hl 2 rfl) ?_
              refine va_put (D := D) (ci := 3) (v := .int p1) (ty := .int) (C := "MailCharacters$Reader") (T := F_Reader) (N := 2) hx hb hts i_Reader t_Reader t_Reader_ok n_Reader hown hK hP hD hS 0 rfl rfl 1 (by decide) (hts _ k_191) (fun _ h9 => h9) rfl (by decide +kernel) rfl rfl (Nat.le_of_ble_eq_true rfl) d_Reader_takeUnit_77 (fun H locs hP hD hS => ?_)
              have hP : va_P D vwCl [(a0, .inr (3, [.ref x0_bits, .int p1])), (a1, .inr (4, [.ref b1, .int (nI l1_28.length), .int o1_28])), (b1, .inl (kI, n1, .inl f1_28))] H := hP
              have hD : va_D A [(a0, .inr (3, [.ref x0_bits, .int p1])), (a1, .inr (4, [.ref b1, .int (nI l1_28.length), .int o1_28])), (b1, .inl (kI, n1, .inl f1_28))] := hD
              refine lv_goto (tgt := 97) hx hb d_Reader_takeUnit_80 (by decide) ?_
              exact hret (p1, f1_28, l1_28, o1_28) _ _ _ _ d_Reader_takeUnit_97 (⟨hRES.symm.trans hF, hr1_28⟩) hP hD hS
        · exact absurd c_27 (by decide)
    · rw [if_neg c_18] at hF
      refine lv_iconst (v := 1) hx hb d_Reader_takeUnit_12 (by decide) ?_
      refine lv_goto (tgt := 17) hx hb d_Reader_takeUnit_13 (by decide) ?_
      refine lv_istore_n (lv' := [(3, .int 1), (0, .ref a0), (1, .int p1), (2, .ref a1)]) hx hb d_Reader_takeUnit_17 rfl hl (by decide) rfl (fun ls hl => ?_)
      refine lv_aload_n hx hb d_Reader_takeUnit_18 rfl (lv_at hl 1 rfl) ?_
      refine va_get (D := D) (ci := 3) (v := .int v0_firstHalf) (C := "MailCharacters$Reader") (T := F_Reader) (N := 2) hx hb hts i_Reader hown hK hP 0 rfl rfl 1 (by decide) (hts _ k_191) (fun _ h9 => h9) rfl d_Reader_takeUnit_19 ?_
      refine lv_if_eq (tgt := 58) hx hb d_Reader_takeUnit_22 (by decide) (fun c_35 => ?_) (fun c_35 => ?_)
      · rw [if_pos c_35] at hF
        refine lv_aload_n hx hb d_Reader_takeUnit_58 rfl (lv_at hl 1 rfl) ?_
        refine lv_aload_n hx hb d_Reader_takeUnit_59 rfl (lv_at hl 3 rfl) ?_
        refine g_Vv (As := [.ref a1]) (rest := []) (wr := []) ⟨hx, hb, hml, hown, hts⟩ (c_Reader_endUnits l D Z kI a0 x0_bits a1 b1 n1 H.size v0_firstHalf f1 l1 o1 hr1) (cw_Reader_endUnits hts k_436 ⟨Nat.le_of_ble_eq_true rfl, Nat.le_of_ble_eq_true rfl⟩) hK hZ hP hD hS hA [0, 1, 2] [] (g_recv hK hP (ci := 3) (q0 := 0) rfl rfl) rfl rfl (by decide) (by decide) (by decide) rfl hl.1 rfl (Nat.le_of_ble_eq_true rfl) d_Reader_takeUnit_60 ⟨Nat.zero_le _, Nat.zero_le _⟩ (fun u_36 H locs hw hP hD hS => ?_)
        obtain ⟨v0_firstHalf_36, f1_36, l1_36, o1_36⟩ := u_36
        have e_36 := hw.1
        have hr1_36 := hw.2
        have hP : va_P D vwCl [(a0, .inr (3, [.ref x0_bits, .int v0_firstHalf_36])), (a1, .inr (4, [.ref b1, .int (nI l1_36.length), .int o1_36])), (b1, .inl (kI, n1, .inl f1_36))] H := hP
        have hD : va_D A [(a0, .inr (3, [.ref x0_bits, .int v0_firstHalf_36])), (a1, .inr (4, [.ref b1, .int (nI l1_36.length), .int o1_36])), (b1, .inl (kI, n1, .inl f1_36))] := hD
        rw [e_36] at hF; dsimp only at hF
        refine lv_iload_n hx hb d_Reader_takeUnit_63 rfl (lv_at hl 2 rfl) ?_
        refine lv_ldc hx hb hown (hts _ k_435) d_Reader_takeUnit_64 ?_
        refine lv_icmp_lt (tgt := 83) hx hb d_Reader_takeUnit_66 (by decide) (fun c_37 => ?_) (fun c_37 => ?_)
        · rw [if_pos c_37] at hF
          refine lv_aload_n hx hb d_Reader_takeUnit_83 rfl (lv_at hl 3 rfl) ?_
          refine lv_iload_n hx hb d_Reader_takeUnit_84 rfl (lv_at hl 0 rfl) ?_
          refine lv_if_eq (tgt := 93) hx hb d_Reader_takeUnit_85 (by decide) (fun c_38 => ?_) (fun c_38 => ?_)
          · exact absurd c_38 (by decide)
          · refine lv_ldc hx hb hown (hts _ k_410) d_Reader_takeUnit_88 ?_
            refine lv_goto (tgt := 94) hx hb d_Reader_takeUnit_90 (by decide) ?_
            refine g_Vv (As := [.int 65533]) (rest := []) (wr := [(a0, .inr (3, [.ref x0_bits, .int v0_firstHalf_36]))]) ⟨hx, hb, hml, hown, hts⟩ (c_Row_put l D Z kI a1 b1 n1 H.size f1_36 l1_36 o1_36 65533 hr1_36) (cw_Row_put hts k_409 ⟨Nat.le_of_ble_eq_true rfl, Nat.le_of_ble_eq_true rfl⟩) hK hZ hP hD hS hA [1, 2] [0] (g_recv hK hP (ci := 4) (q0 := 1) rfl rfl) rfl rfl (by decide) (by decide) (by decide) rfl hl.1 rfl (Nat.le_of_ble_eq_true rfl) d_Reader_takeUnit_94 ⟨Nat.zero_le _, Nat.zero_le _⟩ (fun u_39 H locs hw hP hD hS => ?_)
            obtain ⟨f1_39, l1_39, o1_39⟩ := u_39
            have e_39 := hw.1
            have hr1_39 := hw.2
            have hP : va_P D vwCl [(a0, .inr (3, [.ref x0_bits, .int v0_firstHalf_36])), (a1, .inr (4, [.ref b1, .int (nI l1_39.length), .int o1_39])), (b1, .inl (kI, n1, .inl f1_39))] H := hP
            have hD : va_D A [(a0, .inr (3, [.ref x0_bits, .int v0_firstHalf_36])), (a1, .inr (4, [.ref b1, .int (nI l1_39.length), .int o1_39])), (b1, .inl (kI, n1, .inl f1_39))] := hD
            rw [e_39] at hF; dsimp only at hF
            exact hret (v0_firstHalf_36, f1_39, l1_39, o1_39) _ _ _ _ d_Reader_takeUnit_97 (⟨hRES.symm.trans hF, hr1_39⟩) hP hD hS
        · rw [if_neg c_37] at hF
          refine lv_iload_n hx hb d_Reader_takeUnit_69 rfl (lv_at hl 2 rfl) ?_
          refine lv_ldc hx hb hown (hts _ k_440) d_Reader_takeUnit_70 ?_
          refine lv_icmp_gt (tgt := 83) hx hb d_Reader_takeUnit_72 (by decide) (fun c_40 => ?_) (fun c_40 => ?_)
          · rw [if_pos c_40] at hF
            refine lv_aload_n hx hb d_Reader_takeUnit_83 rfl (lv_at hl 3 rfl) ?_
            refine lv_iload_n hx hb d_Reader_takeUnit_84 rfl (lv_at hl 0 rfl) ?_
            refine lv_if_eq (tgt := 93) hx hb d_Reader_takeUnit_85 (by decide) (fun c_41 => ?_) (fun c_41 => ?_)
            · exact absurd c_41 (by decide)
            · refine lv_ldc hx hb hown (hts _ k_410) d_Reader_takeUnit_88 ?_
              refine lv_goto (tgt := 94) hx hb d_Reader_takeUnit_90 (by decide) ?_
              refine g_Vv (As := [.int 65533]) (rest := []) (wr := [(a0, .inr (3, [.ref x0_bits, .int v0_firstHalf_36]))]) ⟨hx, hb, hml, hown, hts⟩ (c_Row_put l D Z kI a1 b1 n1 H.size f1_36 l1_36 o1_36 65533 hr1_36) (cw_Row_put hts k_409 ⟨Nat.le_of_ble_eq_true rfl, Nat.le_of_ble_eq_true rfl⟩) hK hZ hP hD hS hA [1, 2] [0] (g_recv hK hP (ci := 4) (q0 := 1) rfl rfl) rfl rfl (by decide) (by decide) (by decide) rfl hl.1 rfl (Nat.le_of_ble_eq_true rfl) d_Reader_takeUnit_94 ⟨Nat.zero_le _, Nat.zero_le _⟩ (fun u_42 H locs hw hP hD hS => ?_)
              obtain ⟨f1_42, l1_42, o1_42⟩ := u_42
              have e_42 := hw.1
              have hr1_42 := hw.2
              have hP : va_P D vwCl [(a0, .inr (3, [.ref x0_bits, .int v0_firstHalf_36])), (a1, .inr (4, [.ref b1, .int (nI l1_42.length), .int o1_42])), (b1, .inl (kI, n1, .inl f1_42))] H := hP
              have hD : va_D A [(a0, .inr (3, [.ref x0_bits, .int v0_firstHalf_36])), (a1, .inr (4, [.ref b1, .int (nI l1_42.length), .int o1_42])), (b1, .inl (kI, n1, .inl f1_42))] := hD
              rw [e_42] at hF; dsimp only at hF
              exact hret (v0_firstHalf_36, f1_42, l1_42, o1_42) _ _ _ _ d_Reader_takeUnit_97 (⟨hRES.symm.trans hF, hr1_42⟩) hP hD hS
          · rw [if_neg c_40] at hF
            refine lv_aload_n hx hb d_Reader_takeUnit_75 rfl (lv_at hl 1 rfl) ?_
            refine lv_iload_n hx hb d_Reader_takeUnit_76 rfl (lv_at hl 2 rfl) ?_
            refine va_put (D := D) (ci := 3) (v := .int p1) (ty := .int) (C := "MailCharacters$Reader") (T := F_Reader) (N := 2) hx hb hts i_Reader t_Reader t_Reader_ok n_Reader hown hK hP hD hS 0 rfl rfl 1 (by decide) (hts _ k_191) (fun _ h9 => h9) rfl (by decide +kernel) rfl rfl (Nat.le_of_ble_eq_true rfl) d_Reader_takeUnit_77 (fun H locs hP hD hS => ?_)
            have hP : va_P D vwCl [(a0, .inr (3, [.ref x0_bits, .int p1])), (a1, .inr (4, [.ref b1, .int (nI l1_36.length), .int o1_36])), (b1, .inl (kI, n1, .inl f1_36))] H := hP
            have hD : va_D A [(a0, .inr (3, [.ref x0_bits, .int p1])), (a1, .inr (4, [.ref b1, .int (nI l1_36.length), .int o1_36])), (b1, .inl (kI, n1, .inl f1_36))] := hD
            refine lv_goto (tgt := 97) hx hb d_Reader_takeUnit_80 (by decide) ?_
            exact hret (p1, f1_36, l1_36, o1_36) _ _ _ _ d_Reader_takeUnit_97 (⟨hRES.symm.trans hF, hr1_36⟩) hP hD hS
      · rw [if_neg c_35] at hF
        refine lv_iload_n hx hb d_Reader_takeUnit_25 rfl (lv_at hl 0 rfl) ?_
        refine lv_if_eq (tgt := 58) hx hb d_Reader_takeUnit_26 (by decide) (fun c_43 => ?_) (fun c_43 => ?_)
        · exact absurd c_43 (by decide)
        · refine lv_aload_n hx hb d_Reader_takeUnit_29 rfl (lv_at hl 3 rfl) ?_
          refine lv_ldc hx hb hown (hts _ k_434) d_Reader_takeUnit_30 ?_
          refine lv_aload_n hx hb d_Reader_takeUnit_32 rfl (lv_at hl 1 rfl) ?_
          refine va_get (D := D) (ci := 3) (v := .int v0_firstHalf) (C := "MailCharacters$Reader") (T := F_Reader) (N := 2) hx hb hts i_Reader hown hK hP 0 rfl rfl 1 (by decide) (hts _ k_191) (fun _ h9 => h9) rfl d_Reader_takeUnit_33 ?_
          refine lv_ldc hx hb hown (hts _ k_435) d_Reader_takeUnit_36 ?_
          refine lv_isub hx hb d_Reader_takeUnit_38 ?_
          refine lv_sipush (v := 1024) hx hb d_Reader_takeUnit_39 (by decide) ?_
          refine lv_imul hx hb d_Reader_takeUnit_42 ?_
          refine lv_iadd hx hb d_Reader_takeUnit_43 ?_
          refine lv_iload_n hx hb d_Reader_takeUnit_44 rfl (lv_at hl 2 rfl) ?_
          refine lv_iadd hx hb d_Reader_takeUnit_45 ?_
          refine lv_ldc hx hb hown (hts _ k_432) d_Reader_takeUnit_46 ?_
          refine lv_isub hx hb d_Reader_takeUnit_48 ?_
          refine g_Vv (As := [.int (((65536 + ((v0_firstHalf - 55296) * 1024)) + p1) - 56320)]) (rest := []) (wr := [(a0, .inr (3, [.ref x0_bits, .int v0_firstHalf]))]) ⟨hx, hb, hml, hown, hts⟩ (c_Row_put l D Z kI a1 b1 n1 H.size f1 l1 o1 (((65536 + ((v0_firstHalf - 55296) * 1024)) + p1) - 56320) hr1) (cw_Row_put hts k_409 ⟨Nat.le_of_ble_eq_true rfl, Nat.le_of_ble_eq_true rfl⟩) hK hZ hP hD hS hA [1, 2] [0] (g_recv hK hP (ci := 4) (q0 := 1) rfl rfl) rfl rfl (by decide) (by decide) (by decide) rfl hl.1 rfl (Nat.le_of_ble_eq_true rfl) d_Reader_takeUnit_49 ⟨Nat.zero_le _, Nat.zero_le _⟩ (fun u_44 H locs hw hP hD hS => ?_)
          obtain ⟨f1_44, l1_44, o1_44⟩ := u_44
          have e_44 := hw.1
          have hr1_44 := hw.2
          have hP : va_P D vwCl [(a0, .inr (3, [.ref x0_bits, .int v0_firstHalf])), (a1, .inr (4, [.ref b1, .int (nI l1_44.length), .int o1_44])), (b1, .inl (kI, n1, .inl f1_44))] H := hP
          have hD : va_D A [(a0, .inr (3, [.ref x0_bits, .int v0_firstHalf])), (a1, .inr (4, [.ref b1, .int (nI l1_44.length), .int o1_44])), (b1, .inl (kI, n1, .inl f1_44))] := hD
          rw [e_44] at hF; dsimp only at hF
          refine lv_aload_n hx hb d_Reader_takeUnit_52 rfl (lv_at hl 1 rfl) ?_
          refine lv_iconst (v := 0) hx hb d_Reader_takeUnit_53 (by decide) ?_
          refine va_put (D := D) (ci := 3) (v := .int 0) (ty := .int) (C := "MailCharacters$Reader") (T := F_Reader) (N := 2) hx hb hts i_Reader t_Reader t_Reader_ok n_Reader hown hK hP hD hS 0 rfl rfl 1 (by decide) (hts _ k_191) (fun _ h9 => h9) rfl (by decide +kernel) rfl rfl (Nat.le_of_ble_eq_true rfl) d_Reader_takeUnit_54 (fun H locs hP hD hS => ?_)
          have hP : va_P D vwCl [(a0, .inr (3, [.ref x0_bits, .int 0])), (a1, .inr (4, [.ref b1, .int (nI l1_44.length), .int o1_44])), (b1, .inl (kI, n1, .inl f1_44))] H := hP
          have hD : va_D A [(a0, .inr (3, [.ref x0_bits, .int 0])), (a1, .inr (4, [.ref b1, .int (nI l1_44.length), .int o1_44])), (b1, .inl (kI, n1, .inl f1_44))] := hD
          exact hret (0, f1_44, l1_44, o1_44) _ _ _ _ d_Reader_takeUnit_57 (⟨hRES.symm.trans hF, hr1_44⟩) hP hD hS
theorem cw_Reader_takeUnit {R : Room} {s : State} {args : Array Value} {own : String} {idx : Nat} (hts : ∀ w ∈ gW, w.before args s = true) (hl : Cond.methodLink own idx y_Reader_takeUnit ∈ gW) (hR : rm_Reader_takeUnit.frames + 1 ≤ R.frames ∧ 8 + (4 + 11) + rm_Reader_takeUnit.locals ≤ R.locals) : CallW R s args own "MailCharacters$Reader" idx y_Reader_takeUnit b_Reader_takeUnit 4 none w_Reader_takeUnit rm_Reader_takeUnit 0 0 2 := cwV 2 hts (gW_V hl k_430 k_4 k_74 k_431) rfl rfl rfl (by decide +kernel) hR
def m_Reader_takeSixBits (n2 : Nat) (v0_firstHalf : Int32) (v1_value : Int32) (v1_held : Int32) (l2 : List Int32) (o2 : Int32) (p1 : Int32) : Int32 × Int32 × Int32 × List Int32 × Int32 :=
  match (m_Bits_add v1_value v1_held p1 6) with
  | (v1_value_1, v1_held_1) =>
    if (m_Bits_has v1_held_1 16) = 0 then
      (v0_firstHalf, v1_value_1, v1_held_1, l2, o2)
    else
      match (m_Bits_take v1_value_1 v1_held_1 16) with
      | (r_4, v2_held_4) =>
        match (m_Reader_takeUnit n2 v0_firstHalf l2 o2 r_4) with
        | (v0_firstHalf_5, l1_5, o1_5) =>
          (v0_firstHalf_5, v1_value_1, v2_held_4, l1_5, o1_5)
def rm_Reader_takeSixBits : Room := { frames := 3, cells := 0, slots := 0, locals := 65 }
set_option maxHeartbeats 4000000 in
set_option maxRecDepth 100000 in
theorem c_Reader_takeSixBits (l : Launch) (D : va_G) (Z : gZT) (kI : ClassId) (a0 : Nat) (a1 : Nat) (a2 : Nat) (b2 : Nat) (n2 : Nat) (sz : Nat) (v0_firstHalf : Int32) (v1_value : Int32) (v1_held : Int32) (f2 : Nat → Int32) (l2 : List Int32) (o2 : Int32) (p1 : Int32) (hr2 : g_rw n2 f2 l2) : gMv l y_Reader_takeSixBits w_Reader_takeSixBits rm_Reader_takeSixBits D Z kI [.ref a0, .int p1, .ref a2] sz [(a0, .inr (3, [.ref a1, .int v0_firstHalf])), (a1, .inr (0, [.int v1_value, .int v1_held])), (a2, .inr (4, [.ref b2, .int (nI l2.length), .int o2])), (b2, .inl (kI, n2, .inl f2))] (fun (u : Int32 × Int32 × Int32 × (Nat → Int32) × List Int32 × Int32) => m_Reader_takeSixBits n2 v0_firstHalf v1_value v1_held l2 o2 p1 = (u.1, u.2.1, u.2.2.1, u.2.2.2.2.1, u.2.2.2.2.2) ∧ g_rw n2 u.2.2.2.1 u.2.2.2.2.1) (fun (u : Int32 × Int32 × Int32 × (Nat → Int32) × List Int32 × Int32) => ([(a0, .inr (3, [.ref a1, .int u.1])), (a1, .inr (0, [.int u.2.1, .int u.2.2.1])), (a2, .inr (4, [.ref b2, .int (nI u.2.2.2.2.1.length), .int u.2.2.2.2.2])), (b2, .inl (kI, n2, .inl u.2.2.2.1))] : va_W)) := by
  refine g_ofv (cc := b_Reader_takeSixBits) (maxL := 3) (by decide) rfl (Nat.le_of_ble_eq_true rfl) ?_
  intro p e s m below meth c A Q H ls hx hb hml hown hts hA hK hZ hP hD hS hl hret
  have hown : s.vm.findClass "MailCharacters$Reader" = some m.cls := hown
  have hl : lv_has ls 3 [(0, .ref a0), (1, .int p1), (2, .ref a2)] := hl
  obtain ⟨RES, hRES⟩ : ∃ z, z = m_Reader_takeSixBits n2 v0_firstHalf v1_value v1_held l2 o2 p1 := ⟨_, rfl⟩
  have hF := hRES
  rw [m_Reader_takeSixBits] at hF
  refine lv_aload_n hx hb d_Reader_takeSixBits_0 rfl (lv_at hl 0 rfl) ?_
  refine va_get (D := D) (ci := 3) (v := .ref a1) (C := "MailCharacters$Reader") (T := F_Reader) (N := 2) hx hb hts i_Reader hown hK hP 0 rfl rfl 0 (by decide) (hts _ k_190) (fun _ h9 => h9) rfl d_Reader_takeSixBits_1 ?_
  refine lv_iload_n hx hb d_Reader_takeSixBits_4 rfl (lv_at hl 1 rfl) ?_
  refine lv_bipush (v := 6) hx hb d_Reader_takeSixBits_5 (by decide) ?_
  refine g_Vv (As := [.int p1, .int 6]) (rest := []) (wr := [(a0, .inr (3, [.ref a1, .int v0_firstHalf])), (a2, .inr (4, [.ref b2, .int (nI l2.length), .int o2])), (b2, .inl (kI, n2, .inl f2))]) ⟨hx, hb, hml, hown, hts⟩ (c_Bits_add l D Z kI a1 H.size v1_value v1_held p1 6) (cw_Bits_add hts k_452 ⟨Nat.le_of_ble_eq_true rfl, Nat.le_of_ble_eq_true rfl⟩) hK hZ hP hD hS hA [1] [0, 2, 3] (g_recv hK hP (ci := 0) (q0 := 1) rfl rfl) rfl rfl (by decide) (by decide) (by decide) rfl hl.1 rfl (Nat.le_of_ble_eq_true rfl) d_Reader_takeSixBits_7 ⟨Nat.zero_le _, Nat.zero_le _⟩ (fun u_1 H locs hw hP hD hS => ?_)
  obtain ⟨v1_value_1, v1_held_1⟩ := u_1
  have e_1 := hw
  have hP : va_P D vwCl [(a0, .inr (3, [.ref a1, .int v0_firstHalf])), (a2, .inr (4, [.ref b2, .int (nI l2.length), .int o2])), (b2, .inl (kI, n2, .inl f2)), (a1, .inr (0, [.int v1_value_1, .int v1_held_1]))] H := hP
  have hD : va_D A [(a0, .inr (3, [.ref a1, .int v0_firstHalf])), (a2, .inr (4, [.ref b2, .int (nI l2.length), .int o2])), (b2, .inl (kI, n2, .inl f2)), (a1, .inr (0, [.int v1_value_1, .int v1_held_1]))] := hD
  rw [e_1] at hF; dsimp only at hF
  refine lv_aload_n hx hb d_Reader_takeSixBits_10 rfl (lv_at hl 0 rfl) ?_
  refine va_get (D := D) (ci := 3) (v := .ref a1) (C := "MailCharacters$Reader") (T := F_Reader) (N := 2) hx hb hts i_Reader hown hK hP 0 rfl rfl 0 (by decide) (hts _ k_190) (fun _ h9 => h9) rfl d_Reader_takeSixBits_11 ?_
  refine lv_bipush (v := 16) hx hb d_Reader_takeSixBits_14 (by decide) ?_
  refine g_Vi (As := [.int 16]) (rest := []) (wr := [(a0, .inr (3, [.ref a1, .int v0_firstHalf])), (a2, .inr (4, [.ref b2, .int (nI l2.length), .int o2])), (b2, .inl (kI, n2, .inl f2))]) ⟨hx, hb, hml, hown, hts⟩ (c_Bits_has l D Z kI a1 H.size v1_value_1 v1_held_1 16) (cw_Bits_has hts k_456 ⟨Nat.le_of_ble_eq_true rfl, Nat.le_of_ble_eq_true rfl⟩) hK hZ hP hD hS hA [3] [0, 1, 2] (g_recv hK hP (ci := 0) (q0 := 3) rfl rfl) rfl rfl (by decide) (by decide) (by decide) rfl hl.1 rfl (Nat.le_of_ble_eq_true rfl) d_Reader_takeSixBits_16 ⟨Nat.zero_le _, Nat.zero_le _⟩ (fun r_2 u_2 H locs hw hP hD hS => ?_)
  have e_2 := hw
  subst e_2
  have hP : va_P D vwCl [(a0, .inr (3, [.ref a1, .int v0_firstHalf])), (a2, .inr (4, [.ref b2, .int (nI l2.length), .int o2])), (b2, .inl (kI, n2, .inl f2)), (a1, .inr (0, [.int v1_value_1, .int v1_held_1]))] H := hP
  have hD : va_D A [(a0, .inr (3, [.ref a1, .int v0_firstHalf])), (a2, .inr (4, [.ref b2, .int (nI l2.length), .int o2])), (b2, .inl (kI, n2, .inl f2)), (a1, .inr (0, [.int v1_value_1, .int v1_held_1]))] := hD
  refine lv_if_eq (tgt := 36) hx hb d_Reader_takeSixBits_19 (by decide) (fun c_3 => ?_) (fun c_3 => ?_)
  · rw [if_pos c_3] at hF
    exact hret (v0_firstHalf, v1_value_1, v1_held_1, f2, l2, o2) _ _ _ _ d_Reader_takeSixBits_36 (⟨hRES.symm.trans hF, hr2⟩) (hP.sub [0, 3, 1, 2] rfl) (hD.sub [0, 3, 1, 2] (by decide) rfl) hS
  · rw [if_neg c_3] at hF
    refine lv_aload_n hx hb d_Reader_takeSixBits_22 rfl (lv_at hl 0 rfl) ?_
    refine lv_aload_n hx hb d_Reader_takeSixBits_23 rfl (lv_at hl 0 rfl) ?_
    refine va_get (D := D) (ci := 3) (v := .ref a1) (C := "MailCharacters$Reader") (T := F_Reader) (N := 2) hx hb hts i_Reader hown hK hP 0 rfl rfl 0 (by decide) (hts _ k_190) (fun _ h9 => h9) rfl d_Reader_takeSixBits_24 ?_
    refine lv_bipush (v := 16) hx hb d_Reader_takeSixBits_27 (by decide) ?_
    refine g_Vi (As := [.int 16]) (rest := [.ref a0]) (wr := [(a0, .inr (3, [.ref a1, .int v0_firstHalf])), (a2, .inr (4, [.ref b2, .int (nI l2.length), .int o2])), (b2, .inl (kI, n2, .inl f2))]) ⟨hx, hb, hml, hown, hts⟩ (c_Bits_take l D Z kI a1 H.size v1_value_1 v1_held_1 16) (cw_Bits_take hts k_460 ⟨Nat.le_of_ble_eq_true rfl, Nat.le_of_ble_eq_true rfl⟩) hK hZ hP hD hS hA [3] [0, 1, 2] (g_recv hK hP (ci := 0) (q0 := 3) rfl rfl) rfl rfl (by decide) (by decide) (by decide) rfl hl.1 rfl (Nat.le_of_ble_eq_true rfl) d_Reader_takeSixBits_29 ⟨Nat.zero_le _, Nat.zero_le _⟩ (fun r_4 v2_held_4 H locs hw hP hD hS => ?_)
    have e_4 := hw
    have hP : va_P D vwCl [(a0, .inr (3, [.ref a1, .int v0_firstHalf])), (a2, .inr (4, [.ref b2, .int (nI l2.length), .int o2])), (b2, .inl (kI, n2, .inl f2)), (a1, .inr (0, [.int v1_value_1, .int v2_held_4]))] H := hP
    have hD : va_D A [(a0, .inr (3, [.ref a1, .int v0_firstHalf])), (a2, .inr (4, [.ref b2, .int (nI l2.length), .int o2])), (b2, .inl (kI, n2, .inl f2)), (a1, .inr (0, [.int v1_value_1, .int v2_held_4]))] := hD
    rw [e_4] at hF; dsimp only at hF
    refine lv_aload_n hx hb d_Reader_takeSixBits_32 rfl (lv_at hl 2 rfl) ?_
    refine g_Vv (As := [.int r_4, .ref a2]) (rest := []) (wr := [(a1, .inr (0, [.int v1_value_1, .int v2_held_4]))]) ⟨hx, hb, hml, hown, hts⟩ (c_Reader_takeUnit l D Z kI a0 a1 a2 b2 n2 H.size v0_firstHalf f2 l2 o2 r_4 hr2) (cw_Reader_takeUnit hts k_428 ⟨Nat.le_of_ble_eq_true rfl, Nat.le_of_ble_eq_true rfl⟩) hK hZ hP hD hS hA [0, 1, 2] [3] (g_recv hK hP (ci := 3) (q0 := 0) rfl rfl) rfl rfl (by decide) (by decide) (by decide) rfl hl.1 rfl (Nat.le_of_ble_eq_true rfl) d_Reader_takeSixBits_33 ⟨Nat.zero_le _, Nat.zero_le _⟩ (fun u_5 H locs hw hP hD hS => ?_)
    obtain ⟨v0_firstHalf_5, f1_5, l1_5, o1_5⟩ := u_5
    have e_5 := hw.1
    have hr1_5 := hw.2
    have hP : va_P D vwCl [(a1, .inr (0, [.int v1_value_1, .int v2_held_4])), (a0, .inr (3, [.ref a1, .int v0_firstHalf_5])), (a2, .inr (4, [.ref b2, .int (nI l1_5.length), .int o1_5])), (b2, .inl (kI, n2, .inl f1_5))] H := hP
    have hD : va_D A [(a1, .inr (0, [.int v1_value_1, .int v2_held_4])), (a0, .inr (3, [.ref a1, .int v0_firstHalf_5])), (a2, .inr (4, [.ref b2, .int (nI l1_5.length), .int o1_5])), (b2, .inl (kI, n2, .inl f1_5))] := hD
    rw [e_5] at hF; dsimp only at hF
    exact hret (v0_firstHalf_5, v1_value_1, v2_held_4, f1_5, l1_5, o1_5) _ _ _ _ d_Reader_takeSixBits_36 (⟨hRES.symm.trans hF, hr1_5⟩) (hP.sub [1, 0, 2, 3] rfl) (hD.sub [1, 0, 2, 3] (by decide) rfl) hS
theorem cw_Reader_takeSixBits {R : Room} {s : State} {args : Array Value} {own : String} {idx : Nat} (hts : ∀ w ∈ gW, w.before args s = true) (hl : Cond.methodLink own idx y_Reader_takeSixBits ∈ gW) (hR : rm_Reader_takeSixBits.frames + 1 ≤ R.frames ∧ 8 + (3 + 11) + rm_Reader_takeSixBits.locals ≤ R.locals) : CallW R s args own "MailCharacters$Reader" idx y_Reader_takeSixBits b_Reader_takeSixBits 3 none w_Reader_takeSixBits rm_Reader_takeSixBits 0 0 2 := cwV 2 hts (gW_V hl k_450 k_7 k_74 k_451) rfl rfl rfl (by decide +kernel) hR
def m_SingleBytes_characterOf (p0 : Int32) (p1 : Int32) : Int32 :=
  if 128 ≤ p1 then
    if p0 = 1 then
      p1
    else
      if p0 = 2 then
        (m_SingleBytes_latin9CharacterOf p1)
      else
        if p0 = 3 then
          if 160 ≤ p1 then
            p1
          else
            (m_SingleBytes_inRow 1 (p1 - 128))
        else
          if p0 = 4 then
            65533
          else
            if p0 = 5 then
              65533
            else
              if p0 = 6 then
                65533
              else
                if p0 = 7 then
                  65533
                else
                  if p0 = 8 then
                    (m_SingleBytes_koiCharacterOf p1)
                  else
                    65533
  else
    p1
def rm_SingleBytes_characterOf : Room := { frames := 2, cells := 0, slots := 0, locals := 41 }
set_option maxHeartbeats 4000000 in
set_option maxRecDepth 100000 in
theorem c_SingleBytes_characterOf (l : Launch) (D : va_G) (Z : gZT) (kI : ClassId) (sz : Nat) (p0 : Int32) (p1 : Int32) : gMi l y_SingleBytes_characterOf w_SingleBytes_characterOf rm_SingleBytes_characterOf D Z kI [.int p0, .int p1] sz [] (fun (r : Int32) (_u : Unit) => m_SingleBytes_characterOf p0 p1 = r) (fun (_u : Unit) => ([] : va_W)) := by
  refine g_ofi (cc := b_SingleBytes_characterOf) (maxL := 2) (ty := .int) (by decide) rfl (Nat.le_of_ble_eq_true rfl) ?_
  intro p e s m below meth c A Q H ls hx hb hml hown hts hA hK hZ hP hD hS hl hret
  have hown : s.vm.findClass "MailCharacters$SingleBytes" = some m.cls := hown
  have hl : lv_has ls 2 [(0, .int p0), (1, .int p1)] := hl
  obtain ⟨RES, hRES⟩ : ∃ z, z = m_SingleBytes_characterOf p0 p1 := ⟨_, rfl⟩
  have hF := hRES
  rw [m_SingleBytes_characterOf] at hF
  refine lv_iload_n hx hb d_SingleBytes_characterOf_0 rfl (lv_at hl 1 rfl) ?_
  refine lv_sipush (v := 128) hx hb d_SingleBytes_characterOf_1 (by decide) ?_
  refine lv_icmp_ge (tgt := 9) hx hb d_SingleBytes_characterOf_4 (by decide) (fun c_1 => ?_) (fun c_1 => ?_)
  · rw [if_pos c_1] at hF
    refine lv_iload_n hx hb d_SingleBytes_characterOf_9 rfl (lv_at hl 0 rfl) ?_
    by_cases c_2 : p0 = 1
    · rw [if_pos c_2] at hF
      refine lv_tableIn (off := 46) (tgt := 56) hx hb d_SingleBytes_characterOf_10 (by rw [c_2]; decide) (by rw [c_2]; decide) (by rw [c_2]; decide) (by decide) ?_
      refine lv_iload_n hx hb d_SingleBytes_characterOf_56 rfl (lv_at hl 1 rfl) ?_
      exact hret p1 () _ _ _ _ d_SingleBytes_characterOf_57 rfl (hRES.symm.trans hF) hP hD hS
    rw [if_neg c_2] at hF
    by_cases c_3 : p0 = 2
    · rw [if_pos c_3] at hF
      refine lv_tableIn (off := 48) (tgt := 58) hx hb d_SingleBytes_characterOf_10 (by rw [c_3]; decide) (by rw [c_3]; decide) (by rw [c_3]; decide) (by decide) ?_
      refine lv_iload_n hx hb d_SingleBytes_characterOf_58 rfl (lv_at hl 1 rfl) ?_
      refine g_Si (As := [.int p1]) (rest := []) (wr := []) ⟨hx, hb, hml, hown, hts⟩ (c_SingleBytes_latin9CharacterOf l D Z kI H.size p1) (cw_SingleBytes_latin9CharacterOf hts k_474 ⟨Nat.le_of_ble_eq_true rfl, Nat.le_of_ble_eq_true rfl⟩) hK hZ hP hD hS hA [] [] rfl rfl (by decide) (by decide) (by decide) rfl hl.1 rfl (Nat.le_of_ble_eq_true rfl) d_SingleBytes_characterOf_59 ⟨Nat.zero_le _, Nat.zero_le _⟩ (fun r_4 u_4 H locs hw hP hD hS => ?_)
      have e_4 := hw
      subst e_4
      have hP : va_P D vwCl [] H := hP
      have hD : va_D A [] := hD
      exact hret (m_SingleBytes_latin9CharacterOf p1) () _ _ _ _ d_SingleBytes_characterOf_62 rfl (hRES.symm.trans hF) hP hD hS
    rw [if_neg c_3] at hF
    by_cases c_5 : p0 = 3
    · rw [if_pos c_5] at hF
      refine lv_tableIn (off := 53) (tgt := 63) hx hb d_SingleBytes_characterOf_10 (by rw [c_5]; decide) (by rw [c_5]; decide) (by rw [c_5]; decide) (by decide) ?_
      refine lv_iload_n hx hb d_SingleBytes_characterOf_63 rfl (lv_at hl 1 rfl) ?_
      refine lv_sipush (v := 160) hx hb d_SingleBytes_characterOf_64 (by decide) ?_
      refine lv_icmp_ge (tgt := 84) hx hb d_SingleBytes_characterOf_67 (by decide) (fun c_6 => ?_) (fun c_6 => ?_)
      · rw [if_pos c_6] at hF
        refine lv_iload_n hx hb d_SingleBytes_characterOf_84 rfl (lv_at hl 1 rfl) ?_
        exact hret p1 () _ _ _ _ d_SingleBytes_characterOf_85 rfl (hRES.symm.trans hF) hP hD hS
      · rw [if_neg c_6] at hF
        refine va_gets hx hb (gZ_st1 hZ) hS hown (hts _ k_479) (fun _ h9 => h9) d_SingleBytes_characterOf_70 ?_
        refine lv_iload_n hx hb d_SingleBytes_characterOf_73 rfl (lv_at hl 1 rfl) ?_
        refine lv_sipush (v := 128) hx hb d_SingleBytes_characterOf_74 (by decide) ?_
        refine lv_isub hx hb d_SingleBytes_characterOf_77 ?_
        refine g_Si (As := [.ref (Z.2.2 1), .int (p1 - 128)]) (rest := []) (wr := []) ⟨hx, hb, hml, hown, hts⟩ (c_SingleBytes_inRow l D Z kI H.size 1 (p1 - 128) (by decide)) (cw_SingleBytes_inRow hts k_481 ⟨Nat.le_of_ble_eq_true rfl, Nat.le_of_ble_eq_true rfl⟩) hK hZ hP hD hS hA [] [] rfl rfl (by decide) (by decide) (by decide) rfl hl.1 rfl (Nat.le_of_ble_eq_true rfl) d_SingleBytes_characterOf_78 ⟨Nat.zero_le _, Nat.zero_le _⟩ (fun r_7 u_7 H locs hw hP hD hS => ?_)
        have e_7 := hw
        subst e_7
        have hP : va_P D vwCl [] H := hP
        have hD : va_D A [] := hD
        refine lv_goto (tgt := 85) hx hb d_SingleBytes_characterOf_81 (by decide) ?_
        exact hret (m_SingleBytes_inRow 1 (p1 - 128)) () _ _ _ _ d_SingleBytes_characterOf_85 rfl (hRES.symm.trans hF) hP hD hS
    rw [if_neg c_5] at hF
    by_cases c_8 : p0 = 4
    · rw [if_pos c_8] at hF
      refine lv_tableIn (off := 81) (tgt := 91) hx hb d_SingleBytes_characterOf_10 (by rw [c_8]; decide) (by rw [c_8]; decide) (by rw [c_8]; decide) (by decide) ?_
      refine lv_ldc hx hb hown (hts _ k_484) d_SingleBytes_characterOf_91 ?_
      exact hret 65533 () _ _ _ _ d_SingleBytes_characterOf_93 rfl (hRES.symm.trans hF) hP hD hS
    rw [if_neg c_8] at hF
    by_cases c_9 : p0 = 5
    · rw [if_pos c_9] at hF
      refine lv_tableIn (off := 81) (tgt := 91) hx hb d_SingleBytes_characterOf_10 (by rw [c_9]; decide) (by rw [c_9]; decide) (by rw [c_9]; decide) (by decide) ?_
      refine lv_ldc hx hb hown (hts _ k_484) d_SingleBytes_characterOf_91 ?_
      exact hret 65533 () _ _ _ _ d_SingleBytes_characterOf_93 rfl (hRES.symm.trans hF) hP hD hS
    rw [if_neg c_9] at hF
    by_cases c_10 : p0 = 6
    · rw [if_pos c_10] at hF
      refine lv_tableIn (off := 81) (tgt := 91) hx hb d_SingleBytes_characterOf_10 (by rw [c_10]; decide) (by rw [c_10]; decide) (by rw [c_10]; decide) (by decide) ?_
      refine lv_ldc hx hb hown (hts _ k_484) d_SingleBytes_characterOf_91 ?_
      exact hret 65533 () _ _ _ _ d_SingleBytes_characterOf_93 rfl (hRES.symm.trans hF) hP hD hS
    rw [if_neg c_10] at hF
    by_cases c_11 : p0 = 7
    · rw [if_pos c_11] at hF
      refine lv_tableIn (off := 81) (tgt := 91) hx hb d_SingleBytes_characterOf_10 (by rw [c_11]; decide) (by rw [c_11]; decide) (by rw [c_11]; decide) (by decide) ?_
      refine lv_ldc hx hb hown (hts _ k_484) d_SingleBytes_characterOf_91 ?_
      exact hret 65533 () _ _ _ _ d_SingleBytes_characterOf_93 rfl (hRES.symm.trans hF) hP hD hS
    rw [if_neg c_11] at hF
    by_cases c_12 : p0 = 8
    · rw [if_pos c_12] at hF
      refine lv_tableIn (off := 76) (tgt := 86) hx hb d_SingleBytes_characterOf_10 (by rw [c_12]; decide) (by rw [c_12]; decide) (by rw [c_12]; decide) (by decide) ?_
      refine lv_iload_n hx hb d_SingleBytes_characterOf_86 rfl (lv_at hl 1 rfl) ?_
      refine g_Si (As := [.int p1]) (rest := []) (wr := []) ⟨hx, hb, hml, hown, hts⟩ (c_SingleBytes_koiCharacterOf l D Z kI H.size p1) (cw_SingleBytes_koiCharacterOf hts k_485 ⟨Nat.le_of_ble_eq_true rfl, Nat.le_of_ble_eq_true rfl⟩) hK hZ hP hD hS hA [] [] rfl rfl (by decide) (by decide) (by decide) rfl hl.1 rfl (Nat.le_of_ble_eq_true rfl) d_SingleBytes_characterOf_87 ⟨Nat.zero_le _, Nat.zero_le _⟩ (fun r_13 u_13 H locs hw hP hD hS => ?_)
      have e_13 := hw
      subst e_13
      have hP : va_P D vwCl [] H := hP
      have hD : va_D A [] := hD
      exact hret (m_SingleBytes_koiCharacterOf p1) () _ _ _ _ d_SingleBytes_characterOf_90 rfl (hRES.symm.trans hF) hP hD hS
    rw [if_neg c_12] at hF
    refine lv_tableOut (tgt := 91) hx hb d_SingleBytes_characterOf_10 (by have := lv_neT c_2 (a := 1) (by decide); have := lv_neT c_3 (a := 2) (by decide); have := lv_neT c_5 (a := 3) (by decide); have := lv_neT c_8 (a := 4) (by decide); have := lv_neT c_9 (a := 5) (by decide); have := lv_neT c_10 (a := 6) (by decide); have := lv_neT c_11 (a := 7) (by decide); have := lv_neT c_12 (a := 8) (by decide); omega) (by decide) ?_
    refine lv_ldc hx hb hown (hts _ k_484) d_SingleBytes_characterOf_91 ?_
    exact hret 65533 () _ _ _ _ d_SingleBytes_characterOf_93 rfl (hRES.symm.trans hF) hP hD hS
  · rw [if_neg c_1] at hF
    refine lv_iload_n hx hb d_SingleBytes_characterOf_7 rfl (lv_at hl 1 rfl) ?_
    exact hret p1 () _ _ _ _ d_SingleBytes_characterOf_8 rfl (hRES.symm.trans hF) hP hD hS
theorem cw_SingleBytes_characterOf {R : Room} {s : State} {args : Array Value} {own : String} {idx : Nat} (hts : ∀ w ∈ gW, w.before args s = true) (hl : Cond.methodLink own idx y_SingleBytes_characterOf ∈ gW) (hR : rm_SingleBytes_characterOf.frames + 1 ≤ R.frames ∧ 8 + (2 + 11) + rm_SingleBytes_characterOf.locals ≤ R.locals) : CallB R s args own idx y_SingleBytes_characterOf b_SingleBytes_characterOf 2 (some .int) w_SingleBytes_characterOf rm_SingleBytes_characterOf 0 0 2 ∧ (Cond.static y_SingleBytes_characterOf).before args s = true := va_cwS 2 hts (gW_S hl k_472 k_88 k_473) rfl rfl rfl (by decide +kernel) hR
def m_Uncoder_unquote_l3 (n1 : Nat) : Nat → Int32 → Int32 → Int32 → List Int32 → List Int32 → Int32 → List Int32 × Int32
  | 0, _, _, _, _, l1, o1 => (l1, o1)
  | nf3 + 1, i2, i3, i5, l0, l1, o1 =>
    if i2 ≤ i5 then
      (l1, o1)
    else
      if (m_Row_get l0 i5) = 61 then
        if i2 ≤ (i5 + 2) then
          if i3 = 0 then
            match (m_Row_put n1 l1 o1 (m_Row_get l0 i5)) with
            | (l0_15, o0_15) =>
              m_Uncoder_unquote_l3 n1 nf3 i2 i3 (i5 + 1) l0 l0_15 o0_15
          else
            if (m_Row_get l0 i5) = 95 then
              match (m_Row_put n1 l1 o1 32) with
              | (l0_18, o0_18) =>
                m_Uncoder_unquote_l3 n1 nf3 i2 i3 (i5 + 1) l0 l0_18 o0_18
            else
              match (m_Row_put n1 l1 o1 (m_Row_get l0 i5)) with
              | (l0_17, o0_17) =>
                m_Uncoder_unquote_l3 n1 nf3 i2 i3 (i5 + 1) l0 l0_17 o0_17
        else
          if (m_Letters_hexOf (m_Row_get l0 (i5 + 1))) = (-1) then
            if i3 = 0 then
              match (m_Row_put n1 l1 o1 (m_Row_get l0 i5)) with
              | (l0_24, o0_24) =>
                m_Uncoder_unquote_l3 n1 nf3 i2 i3 (i5 + 1) l0 l0_24 o0_24
            else
              if (m_Row_get l0 i5) = 95 then
                match (m_Row_put n1 l1 o1 32) with
                | (l0_27, o0_27) =>
                  m_Uncoder_unquote_l3 n1 nf3 i2 i3 (i5 + 1) l0 l0_27 o0_27
              else
                match (m_Row_put n1 l1 o1 (m_Row_get l0 i5)) with
                | (l0_26, o0_26) =>
                  m_Uncoder_unquote_l3 n1 nf3 i2 i3 (i5 + 1) l0 l0_26 o0_26
          else
            if (m_Letters_hexOf (m_Row_get l0 (i5 + 2))) = (-1) then
              if i3 = 0 then
                match (m_Row_put n1 l1 o1 (m_Row_get l0 i5)) with
                | (l0_32, o0_32) =>
                  m_Uncoder_unquote_l3 n1 nf3 i2 i3 (i5 + 1) l0 l0_32 o0_32
              else
                if (m_Row_get l0 i5) = 95 then
                  match (m_Row_put n1 l1 o1 32) with
                  | (l0_35, o0_35) =>
                    m_Uncoder_unquote_l3 n1 nf3 i2 i3 (i5 + 1) l0 l0_35 o0_35
                else
                  match (m_Row_put n1 l1 o1 (m_Row_get l0 i5)) with
                  | (l0_34, o0_34) =>
                    m_Uncoder_unquote_l3 n1 nf3 i2 i3 (i5 + 1) l0 l0_34 o0_34
            else
              match (m_Row_put n1 l1 o1 (((m_Letters_hexOf (m_Row_get l0 (i5 + 1))) * 16) + (m_Letters_hexOf (m_Row_get l0 (i5 + 2))))) with
              | (l0_36, o0_36) =>
                m_Uncoder_unquote_l3 n1 nf3 i2 i3 ((i5 + 2) + 1) l0 l0_36 o0_36
      else
        if i3 = 0 then
          match (m_Row_put n1 l1 o1 (m_Row_get l0 i5)) with
          | (l0_7, o0_7) =>
            m_Uncoder_unquote_l3 n1 nf3 i2 i3 (i5 + 1) l0 l0_7 o0_7
        else
          if (m_Row_get l0 i5) = 95 then
            match (m_Row_put n1 l1 o1 32) with
            | (l0_10, o0_10) =>
              m_Uncoder_unquote_l3 n1 nf3 i2 i3 (i5 + 1) l0 l0_10 o0_10
          else
            match (m_Row_put n1 l1 o1 (m_Row_get l0 i5)) with
            | (l0_9, o0_9) =>
              m_Uncoder_unquote_l3 n1 nf3 i2 i3 (i5 + 1) l0 l0_9 o0_9
def m_Uncoder_unquote (n1 : Nat) (l0 : List Int32) (l1 : List Int32) (o1 : Int32) (p1 : Int32) (p2 : Int32) (p3 : Int32) : List Int32 × Int32 :=
  m_Uncoder_unquote_l3 n1 ((p2.toInt - p1.toInt).toNat + 1) p2 p3 p1 l0 l1 o1
def rm_Uncoder_unquote : Room := { frames := 1, cells := 0, slots := 0, locals := 21 }
set_option maxHeartbeats 4000000 in
set_option maxRecDepth 100000 in
theorem c_Uncoder_unquote (l : Launch) (D : va_G) (Z : gZT) (kI : ClassId) (a0 : Nat) (b0 : Nat) (n0 : Nat) (a1 : Nat) (b1 : Nat) (n1 : Nat) (sz : Nat) (f0 : Nat → Int32) (l0 : List Int32) (o0 : Int32) (f1 : Nat → Int32) (l1 : List Int32) (o1 : Int32) (p1 : Int32) (p2 : Int32) (p3 : Int32) (hr0 : g_rw n0 f0 l0) (hr1 : g_rw n1 f1 l1) : gMv l y_Uncoder_unquote w_Uncoder_unquote rm_Uncoder_unquote D Z kI [.ref a0, .int p1, .int p2, .int p3, .ref a1] sz [(a0, .inr (4, [.ref b0, .int (nI l0.length), .int o0])), (b0, .inl (kI, n0, .inl f0)), (a1, .inr (4, [.ref b1, .int (nI l1.length), .int o1])), (b1, .inl (kI, n1, .inl f1))] (fun (u : (Nat → Int32) × List Int32 × Int32) => m_Uncoder_unquote n1 l0 l1 o1 p1 p2 p3 = (u.2.1, u.2.2) ∧ g_rw n1 u.1 u.2.1) (fun (u : (Nat → Int32) × List Int32 × Int32) => ([(a0, .inr (4, [.ref b0, .int (nI l0.length), .int o0])), (b0, .inl (kI, n0, .inl f0)), (a1, .inr (4, [.ref b1, .int (nI u.2.1.length), .int u.2.2])), (b1, .inl (kI, n1, .inl u.1))] : va_W)) := by
  refine g_ofv (cc := b_Uncoder_unquote) (maxL := 9) (by decide) rfl (Nat.le_of_ble_eq_true rfl) ?_
  intro p e s m below meth c A Q H ls hx hb hml hown hts hA hK hZ hP hD hS hl hret
  have hown : s.vm.findClass "MailCharacters$Uncoder" = some m.cls := hown
  have hl : lv_has ls 9 [(0, .ref a0), (1, .int p1), (2, .int p2), (3, .int p3), (4, .ref a1)] := hl
  obtain ⟨RES, hRES⟩ : ∃ z, z = m_Uncoder_unquote n1 l0 l1 o1 p1 p2 p3 := ⟨_, rfl⟩
  have lp3 : ∀ (nf3 : Nat) (i2 : Int32) (i3 : Int32) (i5 : Int32) (f1 : Nat → Int32) (l1 : List Int32) (o1 : Int32) (hr1 : g_rw n1 f1 l1) (H : Heap) (locs : List Loc) (ls : Array Slot), (i2.toInt - i5.toInt).toNat < nf3 → RES = m_Uncoder_unquote_l3 n1 nf3 i2 i3 i5 l0 l1 o1 → va_P D vwCl [(a0, .inr (4, [.ref b0, .int (nI l0.length), .int o0])), (b0, .inl (kI, n0, .inl f0)), (a1, .inr (4, [.ref b1, .int (nI l1.length), .int o1])), (b1, .inl (kI, n1, .inl f1))] H → va_D A [(a0, .inr (4, [.ref b0, .int (nI l0.length), .int o0])), (b0, .inl (kI, n0, .inl f0)), (a1, .inr (4, [.ref b1, .int (nI l1.length), .int o1])), (b1, .inl (kI, n1, .inl f1))] → va_S A s.heap H locs → lv_has ls 9 [(0, .ref a0), (2, .int i2), (3, .int i3), (4, .ref a1), (5, .int i5)] → W p l e rm_Uncoder_unquote s m ([.ref a0, .int p1, .int p2, .int p3, .ref a1] : List Value).toArray below meth c H locs 0 0 Q (F0 m 3 ls []) := by
    intro nf3
    induction nf3 with
    | zero => intro i2 i3 i5 f1 l1 o1 hr1 H locs ls hn3; exact absurd hn3 (Nat.not_lt_zero _)
    | succ nf3 ih3 =>
      intro i2 i3 i5 f1 l1 o1 hr1 H locs ls hn3 hF hP hD hS hl
      rw [m_Uncoder_unquote_l3] at hF
      refine lv_iload hx hb d_Uncoder_unquote_3 (lv_at hl 4 rfl) ?_
      refine lv_iload_n hx hb d_Uncoder_unquote_5 rfl (lv_at hl 1 rfl) ?_
      refine lv_icmp_ge (tgt := 126) hx hb d_Uncoder_unquote_6 (by decide) (fun c_1 => ?_) (fun c_1 => ?_)
      · rw [if_pos c_1] at hF
        exact hret (f1, l1, o1) _ _ _ _ d_Uncoder_unquote_126 (⟨hRES.symm.trans hF, hr1⟩) hP hD hS
      · rw [if_neg c_1] at hF
        refine lv_aload_n hx hb d_Uncoder_unquote_9 rfl (lv_at hl 0 rfl) ?_
        refine lv_iload hx hb d_Uncoder_unquote_10 (lv_at hl 4 rfl) ?_
        refine g_Vi (As := [.int i5]) (rest := []) (wr := [(a1, .inr (4, [.ref b1, .int (nI l1.length), .int o1])), (b1, .inl (kI, n1, .inl f1))]) ⟨hx, hb, hml, hown, hts⟩ (c_Row_get l D Z kI a0 b0 n0 H.size f0 l0 o0 i5 hr0) (cw_Row_get hts k_503 ⟨Nat.le_of_ble_eq_true rfl, Nat.le_of_ble_eq_true rfl⟩) hK hZ hP hD hS hA [0, 1] [2, 3] (g_recv hK hP (ci := 4) (q0 := 0) rfl rfl) rfl rfl (by decide) (by decide) (by decide) rfl hl.1 rfl (Nat.le_of_ble_eq_true rfl) d_Uncoder_unquote_12 ⟨Nat.zero_le _, Nat.zero_le _⟩ (fun r_2 u_2 H locs hw hP hD hS => ?_)
        have e_2 := hw
        subst e_2
        have hP : va_P D vwCl [(a1, .inr (4, [.ref b1, .int (nI l1.length), .int o1])), (b1, .inl (kI, n1, .inl f1)), (a0, .inr (4, [.ref b0, .int (nI l0.length), .int o0])), (b0, .inl (kI, n0, .inl f0))] H := hP
        have hD : va_D A [(a1, .inr (4, [.ref b1, .int (nI l1.length), .int o1])), (b1, .inl (kI, n1, .inl f1)), (a0, .inr (4, [.ref b0, .int (nI l0.length), .int o0])), (b0, .inl (kI, n0, .inl f0))] := hD
        refine lv_istore (lv' := [(6, .int (m_Row_get l0 i5)), (0, .ref a0), (2, .int i2), (3, .int i3), (4, .ref a1), (5, .int i5)]) hx hb d_Uncoder_unquote_15 hl (by decide) rfl (fun ls hl => ?_)
        refine lv_iload hx hb d_Uncoder_unquote_17 (lv_at hl 0 rfl) ?_
        refine lv_bipush (v := 61) hx hb d_Uncoder_unquote_19 (by decide) ?_
        refine lv_icmp_ne (tgt := 46) hx hb d_Uncoder_unquote_21 (by decide) (fun c_3 => ?_) (fun c_3 => ?_)
        · rw [if_neg c_3] at hF
          refine lv_iconst (v := (-1)) hx hb d_Uncoder_unquote_46 (by decide) ?_
          refine lv_istore (lv' := [(7, .int (-1)), (6, .int (m_Row_get l0 i5)), (0, .ref a0), (2, .int i2), (3, .int i3), (4, .ref a1), (5, .int i5)]) hx hb d_Uncoder_unquote_47 hl (by decide) rfl (fun ls hl => ?_)
          refine lv_iload hx hb d_Uncoder_unquote_49 (lv_at hl 0 rfl) ?_
          refine lv_iconst (v := (-1)) hx hb d_Uncoder_unquote_51 (by decide) ?_
          refine lv_icmp_eq (tgt := 69) hx hb d_Uncoder_unquote_52 (by decide) (fun c_4 => ?_) (fun c_4 => ?_)
          · refine lv_iconst (v := (-1)) hx hb d_Uncoder_unquote_69 (by decide) ?_
            refine lv_istore (lv' := [(8, .int (-1)), (7, .int (-1)), (6, .int (m_Row_get l0 i5)), (0, .ref a0), (2, .int i2), (3, .int i3), (4, .ref a1), (5, .int i5)]) hx hb d_Uncoder_unquote_70 hl (by decide) rfl (fun ls hl => ?_)
            refine lv_iload hx hb d_Uncoder_unquote_72 (lv_at hl 0 rfl) ?_
            refine lv_iconst (v := (-1)) hx hb d_Uncoder_unquote_74 (by decide) ?_
            refine lv_icmp_eq (tgt := 97) hx hb d_Uncoder_unquote_75 (by decide) (fun c_5 => ?_) (fun c_5 => ?_)
            · refine lv_aload hx hb d_Uncoder_unquote_97 (lv_at hl 6 rfl) ?_
              refine lv_iload_n hx hb d_Uncoder_unquote_99 rfl (lv_at hl 5 rfl) ?_
              refine lv_if_eq (tgt := 115) hx hb d_Uncoder_unquote_100 (by decide) (fun c_6 => ?_) (fun c_6 => ?_)
              · rw [if_pos c_6] at hF
                refine lv_iload hx hb d_Uncoder_unquote_115 (lv_at hl 2 rfl) ?_
                refine g_Vv (As := [.int (m_Row_get l0 i5)]) (rest := []) (wr := [(a0, .inr (4, [.ref b0, .int (nI l0.length), .int o0])), (b0, .inl (kI, n0, .inl f0))]) ⟨hx, hb, hml, hown, hts⟩ (c_Row_put l D Z kI a1 b1 n1 H.size f1 l1 o1 (m_Row_get l0 i5) hr1) (cw_Row_put hts k_508 ⟨Nat.le_of_ble_eq_true rfl, Nat.le_of_ble_eq_true rfl⟩) hK hZ hP hD hS hA [0, 1] [2, 3] (g_recv hK hP (ci := 4) (q0 := 0) rfl rfl) rfl rfl (by decide) (by decide) (by decide) rfl hl.1 rfl (Nat.le_of_ble_eq_true rfl) d_Uncoder_unquote_117 ⟨Nat.zero_le _, Nat.zero_le _⟩ (fun u_7 H locs hw hP hD hS => ?_)
                obtain ⟨f0_7, l0_7, o0_7⟩ := u_7
                have e_7 := hw.1
                have hr0_7 := hw.2
                have hP : va_P D vwCl [(a0, .inr (4, [.ref b0, .int (nI l0.length), .int o0])), (b0, .inl (kI, n0, .inl f0)), (a1, .inr (4, [.ref b1, .int (nI l0_7.length), .int o0_7])), (b1, .inl (kI, n1, .inl f0_7))] H := hP
                have hD : va_D A [(a0, .inr (4, [.ref b0, .int (nI l0.length), .int o0])), (b0, .inl (kI, n0, .inl f0)), (a1, .inr (4, [.ref b1, .int (nI l0_7.length), .int o0_7])), (b1, .inl (kI, n1, .inl f0_7))] := hD
                rw [e_7] at hF; dsimp only at hF
                refine lv_iinc (v := (i5 + 1)) (lv' := [(5, .int (i5 + 1)), (8, .int (-1)), (7, .int (-1)), (6, .int (m_Row_get l0 i5)), (0, .ref a0), (2, .int i2), (3, .int i3), (4, .ref a1)]) hx hb d_Uncoder_unquote_120 hl (k := 7) rfl rfl (by decide) rfl (fun ls hl => ?_)
                refine lv_goto (tgt := 3) hx hb d_Uncoder_unquote_123 (by decide) ?_
                exact ih3 i2 i3 (i5 + 1) f0_7 l0_7 o0_7 hr0_7 _ _ _  (Nat.lt_of_lt_of_le (g_dec1 c_1) (Nat.le_of_lt_succ hn3)) hF hP hD hS (lv_sub hl [4, 5, 6, 7, 0] rfl)
              · rw [if_neg c_6] at hF
                refine lv_iload hx hb d_Uncoder_unquote_103 (lv_at hl 2 rfl) ?_
                refine lv_bipush (v := 95) hx hb d_Uncoder_unquote_105 (by decide) ?_
                refine lv_icmp_ne (tgt := 115) hx hb d_Uncoder_unquote_107 (by decide) (fun c_8 => ?_) (fun c_8 => ?_)
                · rw [if_neg c_8] at hF
                  refine lv_iload hx hb d_Uncoder_unquote_115 (lv_at hl 2 rfl) ?_
                  refine g_Vv (As := [.int (m_Row_get l0 i5)]) (rest := []) (wr := [(a0, .inr (4, [.ref b0, .int (nI l0.length), .int o0])), (b0, .inl (kI, n0, .inl f0))]) ⟨hx, hb, hml, hown, hts⟩ (c_Row_put l D Z kI a1 b1 n1 H.size f1 l1 o1 (m_Row_get l0 i5) hr1) (cw_Row_put hts k_508 ⟨Nat.le_of_ble_eq_true rfl, Nat.le_of_ble_eq_true rfl⟩) hK hZ hP hD hS hA [0, 1] [2, 3] (g_recv hK hP (ci := 4) (q0 := 0) rfl rfl) rfl rfl (by decide) (by decide) (by decide) rfl hl.1 rfl (Nat.le_of_ble_eq_true rfl) d_Uncoder_unquote_117 ⟨Nat.zero_le _, Nat.zero_le _⟩ (fun u_9 H locs hw hP hD hS => ?_)
                  obtain ⟨f0_9, l0_9, o0_9⟩ := u_9
                  have e_9 := hw.1
                  have hr0_9 := hw.2
                  have hP : va_P D vwCl [(a0, .inr (4, [.ref b0, .int (nI l0.length), .int o0])), (b0, .inl (kI, n0, .inl f0)), (a1, .inr (4, [.ref b1, .int (nI l0_9.length), .int o0_9])), (b1, .inl (kI, n1, .inl f0_9))] H := hP
                  have hD : va_D A [(a0, .inr (4, [.ref b0, .int (nI l0.length), .int o0])), (b0, .inl (kI, n0, .inl f0)), (a1, .inr (4, [.ref b1, .int (nI l0_9.length), .int o0_9])), (b1, .inl (kI, n1, .inl f0_9))] := hD
                  rw [e_9] at hF; dsimp only at hF
                  refine lv_iinc (v := (i5 + 1)) (lv' := [(5, .int (i5 + 1)), (8, .int (-1)), (7, .int (-1)), (6, .int (m_Row_get l0 i5)), (0, .ref a0), (2, .int i2), (3, .int i3), (4, .ref a1)]) hx hb d_Uncoder_unquote_120 hl (k := 7) rfl rfl (by decide) rfl (fun ls hl => ?_)
                  refine lv_goto (tgt := 3) hx hb d_Uncoder_unquote_123 (by decide) ?_
                  exact ih3 i2 i3 (i5 + 1) f0_9 l0_9 o0_9 hr0_9 _ _ _  (Nat.lt_of_lt_of_le (g_dec1 c_1) (Nat.le_of_lt_succ hn3)) hF hP hD hS (lv_sub hl [4, 5, 6, 7, 0] rfl)
                · rw [if_pos c_8] at hF
                  refine lv_bipush (v := 32) hx hb d_Uncoder_unquote_110 (by decide) ?_
                  refine lv_goto (tgt := 117) hx hb d_Uncoder_unquote_112 (by decide) ?_
                  refine g_Vv (As := [.int 32]) (rest := []) (wr := [(a0, .inr (4, [.ref b0, .int (nI l0.length), .int o0])), (b0, .inl (kI, n0, .inl f0))]) ⟨hx, hb, hml, hown, hts⟩ (c_Row_put l D Z kI a1 b1 n1 H.size f1 l1 o1 32 hr1) (cw_Row_put hts k_508 ⟨Nat.le_of_ble_eq_true rfl, Nat.le_of_ble_eq_true rfl⟩) hK hZ hP hD hS hA [0, 1] [2, 3] (g_recv hK hP (ci := 4) (q0 := 0) rfl rfl) rfl rfl (by decide) (by decide) (by decide) rfl hl.1 rfl (Nat.le_of_ble_eq_true rfl) d_Uncoder_unquote_117 ⟨Nat.zero_le _, Nat.zero_le _⟩ (fun u_10 H locs hw hP hD hS => ?_)
                  obtain ⟨f0_10, l0_10, o0_10⟩ := u_10
                  have e_10 := hw.1
                  have hr0_10 := hw.2
                  have hP : va_P D vwCl [(a0, .inr (4, [.ref b0, .int (nI l0.length), .int o0])), (b0, .inl (kI, n0, .inl f0)), (a1, .inr (4, [.ref b1, .int (nI l0_10.length), .int o0_10])), (b1, .inl (kI, n1, .inl f0_10))] H := hP
                  have hD : va_D A [(a0, .inr (4, [.ref b0, .int (nI l0.length), .int o0])), (b0, .inl (kI, n0, .inl f0)), (a1, .inr (4, [.ref b1, .int (nI l0_10.length), .int o0_10])), (b1, .inl (kI, n1, .inl f0_10))] := hD
                  rw [e_10] at hF; dsimp only at hF
                  refine lv_iinc (v := (i5 + 1)) (lv' := [(5, .int (i5 + 1)), (8, .int (-1)), (7, .int (-1)), (6, .int (m_Row_get l0 i5)), (0, .ref a0), (2, .int i2), (3, .int i3), (4, .ref a1)]) hx hb d_Uncoder_unquote_120 hl (k := 7) rfl rfl (by decide) rfl (fun ls hl => ?_)
                  refine lv_goto (tgt := 3) hx hb d_Uncoder_unquote_123 (by decide) ?_
                  exact ih3 i2 i3 (i5 + 1) f0_10 l0_10 o0_10 hr0_10 _ _ _  (Nat.lt_of_lt_of_le (g_dec1 c_1) (Nat.le_of_lt_succ hn3)) hF hP hD hS (lv_sub hl [4, 5, 6, 7, 0] rfl)
            · exact absurd c_5 (by decide)
          · exact absurd c_4 (by decide)
        · rw [if_pos c_3] at hF
          refine lv_iload hx hb d_Uncoder_unquote_24 (lv_at hl 5 rfl) ?_
          refine lv_iconst (v := 2) hx hb d_Uncoder_unquote_26 (by decide) ?_
          refine lv_iadd hx hb d_Uncoder_unquote_27 ?_
          refine lv_iload_n hx hb d_Uncoder_unquote_28 rfl (lv_at hl 2 rfl) ?_
          refine lv_icmp_ge (tgt := 46) hx hb d_Uncoder_unquote_29 (by decide) (fun c_11 => ?_) (fun c_11 => ?_)
          · rw [if_pos c_11] at hF
            refine lv_iconst (v := (-1)) hx hb d_Uncoder_unquote_46 (by decide) ?_
            refine lv_istore (lv' := [(7, .int (-1)), (6, .int (m_Row_get l0 i5)), (0, .ref a0), (2, .int i2), (3, .int i3), (4, .ref a1), (5, .int i5)]) hx hb d_Uncoder_unquote_47 hl (by decide) rfl (fun ls hl => ?_)
            refine lv_iload hx hb d_Uncoder_unquote_49 (lv_at hl 0 rfl) ?_
            refine lv_iconst (v := (-1)) hx hb d_Uncoder_unquote_51 (by decide) ?_
            refine lv_icmp_eq (tgt := 69) hx hb d_Uncoder_unquote_52 (by decide) (fun c_12 => ?_) (fun c_12 => ?_)
            · refine lv_iconst (v := (-1)) hx hb d_Uncoder_unquote_69 (by decide) ?_
              refine lv_istore (lv' := [(8, .int (-1)), (7, .int (-1)), (6, .int (m_Row_get l0 i5)), (0, .ref a0), (2, .int i2), (3, .int i3), (4, .ref a1), (5, .int i5)]) hx hb d_Uncoder_unquote_70 hl (by decide) rfl (fun ls hl => ?_)
              refine lv_iload hx hb d_Uncoder_unquote_72 (lv_at hl 0 rfl) ?_
              refine lv_iconst (v := (-1)) hx hb d_Uncoder_unquote_74 (by decide) ?_
              refine lv_icmp_eq (tgt := 97) hx hb d_Uncoder_unquote_75 (by decide) (fun c_13 => ?_) (fun c_13 => ?_)
              · refine lv_aload hx hb d_Uncoder_unquote_97 (lv_at hl 6 rfl) ?_
                refine lv_iload_n hx hb d_Uncoder_unquote_99 rfl (lv_at hl 5 rfl) ?_
                refine lv_if_eq (tgt := 115) hx hb d_Uncoder_unquote_100 (by decide) (fun c_14 => ?_) (fun c_14 => ?_)
                · rw [if_pos c_14] at hF
                  refine lv_iload hx hb d_Uncoder_unquote_115 (lv_at hl 2 rfl) ?_
                  refine g_Vv (As := [.int (m_Row_get l0 i5)]) (rest := []) (wr := [(a0, .inr (4, [.ref b0, .int (nI l0.length), .int o0])), (b0, .inl (kI, n0, .inl f0))]) ⟨hx, hb, hml, hown, hts⟩ (c_Row_put l D Z kI a1 b1 n1 H.size f1 l1 o1 (m_Row_get l0 i5) hr1) (cw_Row_put hts k_508 ⟨Nat.le_of_ble_eq_true rfl, Nat.le_of_ble_eq_true rfl⟩) hK hZ hP hD hS hA [0, 1] [2, 3] (g_recv hK hP (ci := 4) (q0 := 0) rfl rfl) rfl rfl (by decide) (by decide) (by decide) rfl hl.1 rfl (Nat.le_of_ble_eq_true rfl) d_Uncoder_unquote_117 ⟨Nat.zero_le _, Nat.zero_le _⟩ (fun u_15 H locs hw hP hD hS => ?_)
                  obtain ⟨f0_15, l0_15, o0_15⟩ := u_15
                  have e_15 := hw.1
                  have hr0_15 := hw.2
                  have hP : va_P D vwCl [(a0, .inr (4, [.ref b0, .int (nI l0.length), .int o0])), (b0, .inl (kI, n0, .inl f0)), (a1, .inr (4, [.ref b1, .int (nI l0_15.length), .int o0_15])), (b1, .inl (kI, n1, .inl f0_15))] H := hP
                  have hD : va_D A [(a0, .inr (4, [.ref b0, .int (nI l0.length), .int o0])), (b0, .inl (kI, n0, .inl f0)), (a1, .inr (4, [.ref b1, .int (nI l0_15.length), .int o0_15])), (b1, .inl (kI, n1, .inl f0_15))] := hD
                  rw [e_15] at hF; dsimp only at hF
                  refine lv_iinc (v := (i5 + 1)) (lv' := [(5, .int (i5 + 1)), (8, .int (-1)), (7, .int (-1)), (6, .int (m_Row_get l0 i5)), (0, .ref a0), (2, .int i2), (3, .int i3), (4, .ref a1)]) hx hb d_Uncoder_unquote_120 hl (k := 7) rfl rfl (by decide) rfl (fun ls hl => ?_)
                  refine lv_goto (tgt := 3) hx hb d_Uncoder_unquote_123 (by decide) ?_
                  exact ih3 i2 i3 (i5 + 1) f0_15 l0_15 o0_15 hr0_15 _ _ _  (Nat.lt_of_lt_of_le (g_dec1 c_1) (Nat.le_of_lt_succ hn3)) hF hP hD hS (lv_sub hl [4, 5, 6, 7, 0] rfl)
                · rw [if_neg c_14] at hF
                  refine lv_iload hx hb d_Uncoder_unquote_103 (lv_at hl 2 rfl) ?_
                  refine lv_bipush (v := 95) hx hb d_Uncoder_unquote_105 (by decide) ?_
                  refine lv_icmp_ne (tgt := 115) hx hb d_Uncoder_unquote_107 (by decide) (fun c_16 => ?_) (fun c_16 => ?_)
                  · rw [if_neg c_16] at hF
                    refine lv_iload hx hb d_Uncoder_unquote_115 (lv_at hl 2 rfl) ?_
                    refine g_Vv (As := [.int (m_Row_get l0 i5)]) (rest := []) (wr := [(a0, .inr (4, [.ref b0, .int (nI l0.length), .int o0])), (b0, .inl (kI, n0, .inl f0))]) ⟨hx, hb, hml, hown, hts⟩ (c_Row_put l D Z kI a1 b1 n1 H.size f1 l1 o1 (m_Row_get l0 i5) hr1) (cw_Row_put hts k_508 ⟨Nat.le_of_ble_eq_true rfl, Nat.le_of_ble_eq_true rfl⟩) hK hZ hP hD hS hA [0, 1] [2, 3] (g_recv hK hP (ci := 4) (q0 := 0) rfl rfl) rfl rfl (by decide) (by decide) (by decide) rfl hl.1 rfl (Nat.le_of_ble_eq_true rfl) d_Uncoder_unquote_117 ⟨Nat.zero_le _, Nat.zero_le _⟩ (fun u_17 H locs hw hP hD hS => ?_)
                    obtain ⟨f0_17, l0_17, o0_17⟩ := u_17
                    have e_17 := hw.1
                    have hr0_17 := hw.2
                    have hP : va_P D vwCl [(a0, .inr (4, [.ref b0, .int (nI l0.length), .int o0])), (b0, .inl (kI, n0, .inl f0)), (a1, .inr (4, [.ref b1, .int (nI l0_17.length), .int o0_17])), (b1, .inl (kI, n1, .inl f0_17))] H := hP
                    have hD : va_D A [(a0, .inr (4, [.ref b0, .int (nI l0.length), .int o0])), (b0, .inl (kI, n0, .inl f0)), (a1, .inr (4, [.ref b1, .int (nI l0_17.length), .int o0_17])), (b1, .inl (kI, n1, .inl f0_17))] := hD
                    rw [e_17] at hF; dsimp only at hF
                    refine lv_iinc (v := (i5 + 1)) (lv' := [(5, .int (i5 + 1)), (8, .int (-1)), (7, .int (-1)), (6, .int (m_Row_get l0 i5)), (0, .ref a0), (2, .int i2), (3, .int i3), (4, .ref a1)]) hx hb d_Uncoder_unquote_120 hl (k := 7) rfl rfl (by decide) rfl (fun ls hl => ?_)
                    refine lv_goto (tgt := 3) hx hb d_Uncoder_unquote_123 (by decide) ?_
                    exact ih3 i2 i3 (i5 + 1) f0_17 l0_17 o0_17 hr0_17 _ _ _  (Nat.lt_of_lt_of_le (g_dec1 c_1) (Nat.le_of_lt_succ hn3)) hF hP hD hS (lv_sub hl [4, 5, 6, 7, 0] rfl)
                  · rw [if_pos c_16] at hF
                    refine lv_bipush (v := 32) hx hb d_Uncoder_unquote_110 (by decide) ?_
                    refine lv_goto (tgt := 117) hx hb d_Uncoder_unquote_112 (by decide) ?_
                    refine g_Vv (As := [.int 32]) (rest := []) (wr := [(a0, .inr (4, [.ref b0, .int (nI l0.length), .int o0])), (b0, .inl (kI, n0, .inl f0))]) ⟨hx, hb, hml, hown, hts⟩ (c_Row_put l D Z kI a1 b1 n1 H.size f1 l1 o1 32 hr1) (cw_Row_put hts k_508 ⟨Nat.le_of_ble_eq_true rfl, Nat.le_of_ble_eq_true rfl⟩) hK hZ hP hD hS hA [0, 1] [2, 3] (g_recv hK hP (ci := 4) (q0 := 0) rfl rfl) rfl rfl (by decide) (by decide) (by decide) rfl hl.1 rfl (Nat.le_of_ble_eq_true rfl) d_Uncoder_unquote_117 ⟨Nat.zero_le _, Nat.zero_le _⟩ (fun u_18 H locs hw hP hD hS => ?_)
                    obtain ⟨f0_18, l0_18, o0_18⟩ := u_18
                    have e_18 := hw.1
                    have hr0_18 := hw.2
                    have hP : va_P D vwCl [(a0, .inr (4, [.ref b0, .int (nI l0.length), .int o0])), (b0, .inl (kI, n0, .inl f0)), (a1, .inr (4, [.ref b1, .int (nI l0_18.length), .int o0_18])), (b1, .inl (kI, n1, .inl f0_18))] H := hP
                    have hD : va_D A [(a0, .inr (4, [.ref b0, .int (nI l0.length), .int o0])), (b0, .inl (kI, n0, .inl f0)), (a1, .inr (4, [.ref b1, .int (nI l0_18.length), .int o0_18])), (b1, .inl (kI, n1, .inl f0_18))] := hD
                    rw [e_18] at hF; dsimp only at hF
                    refine lv_iinc (v := (i5 + 1)) (lv' := [(5, .int (i5 + 1)), (8, .int (-1)), (7, .int (-1)), (6, .int (m_Row_get l0 i5)), (0, .ref a0), (2, .int i2), (3, .int i3), (4, .ref a1)]) hx hb d_Uncoder_unquote_120 hl (k := 7) rfl rfl (by decide) rfl (fun ls hl => ?_)
                    refine lv_goto (tgt := 3) hx hb d_Uncoder_unquote_123 (by decide) ?_
                    exact ih3 i2 i3 (i5 + 1) f0_18 l0_18 o0_18 hr0_18 _ _ _  (Nat.lt_of_lt_of_le (g_dec1 c_1) (Nat.le_of_lt_succ hn3)) hF hP hD hS (lv_sub hl [4, 5, 6, 7, 0] rfl)
              · exact absurd c_13 (by decide)
            · exact absurd c_12 (by decide)
          · rw [if_neg c_11] at hF
            refine lv_aload_n hx hb d_Uncoder_unquote_32 rfl (lv_at hl 1 rfl) ?_
            refine lv_iload hx hb d_Uncoder_unquote_33 (lv_at hl 5 rfl) ?_
            refine lv_iconst (v := 1) hx hb d_Uncoder_unquote_35 (by decide) ?_
            refine lv_iadd hx hb d_Uncoder_unquote_36 ?_
            refine g_Vi (As := [.int (i5 + 1)]) (rest := []) (wr := [(a1, .inr (4, [.ref b1, .int (nI l1.length), .int o1])), (b1, .inl (kI, n1, .inl f1))]) ⟨hx, hb, hml, hown, hts⟩ (c_Row_get l D Z kI a0 b0 n0 H.size f0 l0 o0 (i5 + 1) hr0) (cw_Row_get hts k_503 ⟨Nat.le_of_ble_eq_true rfl, Nat.le_of_ble_eq_true rfl⟩) hK hZ hP hD hS hA [2, 3] [0, 1] (g_recv hK hP (ci := 4) (q0 := 2) rfl rfl) rfl rfl (by decide) (by decide) (by decide) rfl hl.1 rfl (Nat.le_of_ble_eq_true rfl) d_Uncoder_unquote_37 ⟨Nat.zero_le _, Nat.zero_le _⟩ (fun r_19 u_19 H locs hw hP hD hS => ?_)
            have e_19 := hw
            subst e_19
            have hP : va_P D vwCl [(a1, .inr (4, [.ref b1, .int (nI l1.length), .int o1])), (b1, .inl (kI, n1, .inl f1)), (a0, .inr (4, [.ref b0, .int (nI l0.length), .int o0])), (b0, .inl (kI, n0, .inl f0))] H := hP
            have hD : va_D A [(a1, .inr (4, [.ref b1, .int (nI l1.length), .int o1])), (b1, .inl (kI, n1, .inl f1)), (a0, .inr (4, [.ref b0, .int (nI l0.length), .int o0])), (b0, .inl (kI, n0, .inl f0))] := hD
            refine g_Si (As := [.int (m_Row_get l0 (i5 + 1))]) (rest := []) (wr := [(a1, .inr (4, [.ref b1, .int (nI l1.length), .int o1])), (b1, .inl (kI, n1, .inl f1)), (a0, .inr (4, [.ref b0, .int (nI l0.length), .int o0])), (b0, .inl (kI, n0, .inl f0))]) ⟨hx, hb, hml, hown, hts⟩ (c_Letters_hexOf l D Z kI H.size (m_Row_get l0 (i5 + 1))) (cw_Letters_hexOf hts k_512 ⟨Nat.le_of_ble_eq_true rfl, Nat.le_of_ble_eq_true rfl⟩) hK hZ hP hD hS hA [] [0, 1, 2, 3] rfl rfl (by decide) (by decide) (by decide) rfl hl.1 rfl (Nat.le_of_ble_eq_true rfl) d_Uncoder_unquote_40 ⟨Nat.zero_le _, Nat.zero_le _⟩ (fun r_20 u_20 H locs hw hP hD hS => ?_)
            have e_20 := hw
            subst e_20
            have hP : va_P D vwCl [(a1, .inr (4, [.ref b1, .int (nI l1.length), .int o1])), (b1, .inl (kI, n1, .inl f1)), (a0, .inr (4, [.ref b0, .int (nI l0.length), .int o0])), (b0, .inl (kI, n0, .inl f0))] H := hP
            have hD : va_D A [(a1, .inr (4, [.ref b1, .int (nI l1.length), .int o1])), (b1, .inl (kI, n1, .inl f1)), (a0, .inr (4, [.ref b0, .int (nI l0.length), .int o0])), (b0, .inl (kI, n0, .inl f0))] := hD
            refine lv_goto (tgt := 47) hx hb d_Uncoder_unquote_43 (by decide) ?_
            refine lv_istore (lv' := [(7, .int (m_Letters_hexOf (m_Row_get l0 (i5 + 1)))), (6, .int (m_Row_get l0 i5)), (0, .ref a0), (2, .int i2), (3, .int i3), (4, .ref a1), (5, .int i5)]) hx hb d_Uncoder_unquote_47 hl (by decide) rfl (fun ls hl => ?_)
            refine lv_iload hx hb d_Uncoder_unquote_49 (lv_at hl 0 rfl) ?_
            refine lv_iconst (v := (-1)) hx hb d_Uncoder_unquote_51 (by decide) ?_
            refine lv_icmp_eq (tgt := 69) hx hb d_Uncoder_unquote_52 (by decide) (fun c_21 => ?_) (fun c_21 => ?_)
            · rw [if_pos c_21] at hF
              refine lv_iconst (v := (-1)) hx hb d_Uncoder_unquote_69 (by decide) ?_
              refine lv_istore (lv' := [(8, .int (-1)), (7, .int (m_Letters_hexOf (m_Row_get l0 (i5 + 1)))), (6, .int (m_Row_get l0 i5)), (0, .ref a0), (2, .int i2), (3, .int i3), (4, .ref a1), (5, .int i5)]) hx hb d_Uncoder_unquote_70 hl (by decide) rfl (fun ls hl => ?_)
              refine lv_iload hx hb d_Uncoder_unquote_72 (lv_at hl 0 rfl) ?_
              refine lv_iconst (v := (-1)) hx hb d_Uncoder_unquote_74 (by decide) ?_
              refine lv_icmp_eq (tgt := 97) hx hb d_Uncoder_unquote_75 (by decide) (fun c_22 => ?_) (fun c_22 => ?_)
              · refine lv_aload hx hb d_Uncoder_unquote_97 (lv_at hl 6 rfl) ?_
                refine lv_iload_n hx hb d_Uncoder_unquote_99 rfl (lv_at hl 5 rfl) ?_
                refine lv_if_eq (tgt := 115) hx hb d_Uncoder_unquote_100 (by decide) (fun c_23 => ?_) (fun c_23 => ?_)
                · rw [if_pos c_23] at hF
                  refine lv_iload hx hb d_Uncoder_unquote_115 (lv_at hl 2 rfl) ?_
                  refine g_Vv (As := [.int (m_Row_get l0 i5)]) (rest := []) (wr := [(a0, .inr (4, [.ref b0, .int (nI l0.length), .int o0])), (b0, .inl (kI, n0, .inl f0))]) ⟨hx, hb, hml, hown, hts⟩ (c_Row_put l D Z kI a1 b1 n1 H.size f1 l1 o1 (m_Row_get l0 i5) hr1) (cw_Row_put hts k_508 ⟨Nat.le_of_ble_eq_true rfl, Nat.le_of_ble_eq_true rfl⟩) hK hZ hP hD hS hA [0, 1] [2, 3] (g_recv hK hP (ci := 4) (q0 := 0) rfl rfl) rfl rfl (by decide) (by decide) (by decide) rfl hl.1 rfl (Nat.le_of_ble_eq_true rfl) d_Uncoder_unquote_117 ⟨Nat.zero_le _, Nat.zero_le _⟩ (fun u_24 H locs hw hP hD hS => ?_)
                  obtain ⟨f0_24, l0_24, o0_24⟩ := u_24
                  have e_24 := hw.1
                  have hr0_24 := hw.2
                  have hP : va_P D vwCl [(a0, .inr (4, [.ref b0, .int (nI l0.length), .int o0])), (b0, .inl (kI, n0, .inl f0)), (a1, .inr (4, [.ref b1, .int (nI l0_24.length), .int o0_24])), (b1, .inl (kI, n1, .inl f0_24))] H := hP
                  have hD : va_D A [(a0, .inr (4, [.ref b0, .int (nI l0.length), .int o0])), (b0, .inl (kI, n0, .inl f0)), (a1, .inr (4, [.ref b1, .int (nI l0_24.length), .int o0_24])), (b1, .inl (kI, n1, .inl f0_24))] := hD
                  rw [e_24] at hF; dsimp only at hF
                  refine lv_iinc (v := (i5 + 1)) (lv' := [(5, .int (i5 + 1)), (8, .int (-1)), (7, .int (m_Letters_hexOf (m_Row_get l0 (i5 + 1)))), (6, .int (m_Row_get l0 i5)), (0, .ref a0), (2, .int i2), (3, .int i3), (4, .ref a1)]) hx hb d_Uncoder_unquote_120 hl (k := 7) rfl rfl (by decide) rfl (fun ls hl => ?_)
                  refine lv_goto (tgt := 3) hx hb d_Uncoder_unquote_123 (by decide) ?_
                  exact ih3 i2 i3 (i5 + 1) f0_24 l0_24 o0_24 hr0_24 _ _ _  (Nat.lt_of_lt_of_le (g_dec1 c_1) (Nat.le_of_lt_succ hn3)) hF hP hD hS (lv_sub hl [4, 5, 6, 7, 0] rfl)
                · rw [if_neg c_23] at hF
                  refine lv_iload hx hb d_Uncoder_unquote_103 (lv_at hl 2 rfl) ?_
                  refine lv_bipush (v := 95) hx hb d_Uncoder_unquote_105 (by decide) ?_
                  refine lv_icmp_ne (tgt := 115) hx hb d_Uncoder_unquote_107 (by decide) (fun c_25 => ?_) (fun c_25 => ?_)
                  · rw [if_neg c_25] at hF
                    refine lv_iload hx hb d_Uncoder_unquote_115 (lv_at hl 2 rfl) ?_
                    refine g_Vv (As := [.int (m_Row_get l0 i5)]) (rest := []) (wr := [(a0, .inr (4, [.ref b0, .int (nI l0.length), .int o0])), (b0, .inl (kI, n0, .inl f0))]) ⟨hx, hb, hml, hown, hts⟩ (c_Row_put l D Z kI a1 b1 n1 H.size f1 l1 o1 (m_Row_get l0 i5) hr1) (cw_Row_put hts k_508 ⟨Nat.le_of_ble_eq_true rfl, Nat.le_of_ble_eq_true rfl⟩) hK hZ hP hD hS hA [0, 1] [2, 3] (g_recv hK hP (ci := 4) (q0 := 0) rfl rfl) rfl rfl (by decide) (by decide) (by decide) rfl hl.1 rfl (Nat.le_of_ble_eq_true rfl) d_Uncoder_unquote_117 ⟨Nat.zero_le _, Nat.zero_le _⟩ (fun u_26 H locs hw hP hD hS => ?_)
                    obtain ⟨f0_26, l0_26, o0_26⟩ := u_26
                    have e_26 := hw.1
                    have hr0_26 := hw.2
                    have hP : va_P D vwCl [(a0, .inr (4, [.ref b0, .int (nI l0.length), .int o0])), (b0, .inl (kI, n0, .inl f0)), (a1, .inr (4, [.ref b1, .int (nI l0_26.length), .int o0_26])), (b1, .inl (kI, n1, .inl f0_26))] H := hP
                    have hD : va_D A [(a0, .inr (4, [.ref b0, .int (nI l0.length), .int o0])), (b0, .inl (kI, n0, .inl f0)), (a1, .inr (4, [.ref b1, .int (nI l0_26.length), .int o0_26])), (b1, .inl (kI, n1, .inl f0_26))] := hD
                    rw [e_26] at hF; dsimp only at hF
                    refine lv_iinc (v := (i5 + 1)) (lv' := [(5, .int (i5 + 1)), (8, .int (-1)), (7, .int (m_Letters_hexOf (m_Row_get l0 (i5 + 1)))), (6, .int (m_Row_get l0 i5)), (0, .ref a0), (2, .int i2), (3, .int i3), (4, .ref a1)]) hx hb d_Uncoder_unquote_120 hl (k := 7) rfl rfl (by decide) rfl (fun ls hl => ?_)
                    refine lv_goto (tgt := 3) hx hb d_Uncoder_unquote_123 (by decide) ?_
                    exact ih3 i2 i3 (i5 + 1) f0_26 l0_26 o0_26 hr0_26 _ _ _  (Nat.lt_of_lt_of_le (g_dec1 c_1) (Nat.le_of_lt_succ hn3)) hF hP hD hS (lv_sub hl [4, 5, 6, 7, 0] rfl)
                  · rw [if_pos c_25] at hF
                    refine lv_bipush (v := 32) hx hb d_Uncoder_unquote_110 (by decide) ?_
                    refine lv_goto (tgt := 117) hx hb d_Uncoder_unquote_112 (by decide) ?_
                    refine g_Vv (As := [.int 32]) (rest := []) (wr := [(a0, .inr (4, [.ref b0, .int (nI l0.length), .int o0])), (b0, .inl (kI, n0, .inl f0))]) ⟨hx, hb, hml, hown, hts⟩ (c_Row_put l D Z kI a1 b1 n1 H.size f1 l1 o1 32 hr1) (cw_Row_put hts k_508 ⟨Nat.le_of_ble_eq_true rfl, Nat.le_of_ble_eq_true rfl⟩) hK hZ hP hD hS hA [0, 1] [2, 3] (g_recv hK hP (ci := 4) (q0 := 0) rfl rfl) rfl rfl (by decide) (by decide) (by decide) rfl hl.1 rfl (Nat.le_of_ble_eq_true rfl) d_Uncoder_unquote_117 ⟨Nat.zero_le _, Nat.zero_le _⟩ (fun u_27 H locs hw hP hD hS => ?_)
                    obtain ⟨f0_27, l0_27, o0_27⟩ := u_27
                    have e_27 := hw.1
                    have hr0_27 := hw.2
                    have hP : va_P D vwCl [(a0, .inr (4, [.ref b0, .int (nI l0.length), .int o0])), (b0, .inl (kI, n0, .inl f0)), (a1, .inr (4, [.ref b1, .int (nI l0_27.length), .int o0_27])), (b1, .inl (kI, n1, .inl f0_27))] H := hP
                    have hD : va_D A [(a0, .inr (4, [.ref b0, .int (nI l0.length), .int o0])), (b0, .inl (kI, n0, .inl f0)), (a1, .inr (4, [.ref b1, .int (nI l0_27.length), .int o0_27])), (b1, .inl (kI, n1, .inl f0_27))] := hD
                    rw [e_27] at hF; dsimp only at hF
                    refine lv_iinc (v := (i5 + 1)) (lv' := [(5, .int (i5 + 1)), (8, .int (-1)), (7, .int (m_Letters_hexOf (m_Row_get l0 (i5 + 1)))), (6, .int (m_Row_get l0 i5)), (0, .ref a0), (2, .int i2), (3, .int i3), (4, .ref a1)]) hx hb d_Uncoder_unquote_120 hl (k := 7) rfl rfl (by decide) rfl (fun ls hl => ?_)
                    refine lv_goto (tgt := 3) hx hb d_Uncoder_unquote_123 (by decide) ?_
                    exact ih3 i2 i3 (i5 + 1) f0_27 l0_27 o0_27 hr0_27 _ _ _  (Nat.lt_of_lt_of_le (g_dec1 c_1) (Nat.le_of_lt_succ hn3)) hF hP hD hS (lv_sub hl [4, 5, 6, 7, 0] rfl)
              · exact absurd c_22 (by decide)
            · rw [if_neg c_21] at hF
              refine lv_aload_n hx hb d_Uncoder_unquote_55 rfl (lv_at hl 2 rfl) ?_
              refine lv_iload hx hb d_Uncoder_unquote_56 (lv_at hl 6 rfl) ?_
              refine lv_iconst (v := 2) hx hb d_Uncoder_unquote_58 (by decide) ?_
              refine lv_iadd hx hb d_Uncoder_unquote_59 ?_
              refine g_Vi (As := [.int (i5 + 2)]) (rest := []) (wr := [(a1, .inr (4, [.ref b1, .int (nI l1.length), .int o1])), (b1, .inl (kI, n1, .inl f1))]) ⟨hx, hb, hml, hown, hts⟩ (c_Row_get l D Z kI a0 b0 n0 H.size f0 l0 o0 (i5 + 2) hr0) (cw_Row_get hts k_503 ⟨Nat.le_of_ble_eq_true rfl, Nat.le_of_ble_eq_true rfl⟩) hK hZ hP hD hS hA [2, 3] [0, 1] (g_recv hK hP (ci := 4) (q0 := 2) rfl rfl) rfl rfl (by decide) (by decide) (by decide) rfl hl.1 rfl (Nat.le_of_ble_eq_true rfl) d_Uncoder_unquote_60 ⟨Nat.zero_le _, Nat.zero_le _⟩ (fun r_28 u_28 H locs hw hP hD hS => ?_)
              have e_28 := hw
              subst e_28
              have hP : va_P D vwCl [(a1, .inr (4, [.ref b1, .int (nI l1.length), .int o1])), (b1, .inl (kI, n1, .inl f1)), (a0, .inr (4, [.ref b0, .int (nI l0.length), .int o0])), (b0, .inl (kI, n0, .inl f0))] H := hP
              have hD : va_D A [(a1, .inr (4, [.ref b1, .int (nI l1.length), .int o1])), (b1, .inl (kI, n1, .inl f1)), (a0, .inr (4, [.ref b0, .int (nI l0.length), .int o0])), (b0, .inl (kI, n0, .inl f0))] := hD
              refine g_Si (As := [.int (m_Row_get l0 (i5 + 2))]) (rest := []) (wr := [(a1, .inr (4, [.ref b1, .int (nI l1.length), .int o1])), (b1, .inl (kI, n1, .inl f1)), (a0, .inr (4, [.ref b0, .int (nI l0.length), .int o0])), (b0, .inl (kI, n0, .inl f0))]) ⟨hx, hb, hml, hown, hts⟩ (c_Letters_hexOf l D Z kI H.size (m_Row_get l0 (i5 + 2))) (cw_Letters_hexOf hts k_512 ⟨Nat.le_of_ble_eq_true rfl, Nat.le_of_ble_eq_true rfl⟩) hK hZ hP hD hS hA [] [0, 1, 2, 3] rfl rfl (by decide) (by decide) (by decide) rfl hl.1 rfl (Nat.le_of_ble_eq_true rfl) d_Uncoder_unquote_63 ⟨Nat.zero_le _, Nat.zero_le _⟩ (fun r_29 u_29 H locs hw hP hD hS => ?_)
              have e_29 := hw
              subst e_29
              have hP : va_P D vwCl [(a1, .inr (4, [.ref b1, .int (nI l1.length), .int o1])), (b1, .inl (kI, n1, .inl f1)), (a0, .inr (4, [.ref b0, .int (nI l0.length), .int o0])), (b0, .inl (kI, n0, .inl f0))] H := hP
              have hD : va_D A [(a1, .inr (4, [.ref b1, .int (nI l1.length), .int o1])), (b1, .inl (kI, n1, .inl f1)), (a0, .inr (4, [.ref b0, .int (nI l0.length), .int o0])), (b0, .inl (kI, n0, .inl f0))] := hD
              refine lv_goto (tgt := 70) hx hb d_Uncoder_unquote_66 (by decide) ?_
              refine lv_istore (lv' := [(8, .int (m_Letters_hexOf (m_Row_get l0 (i5 + 2)))), (7, .int (m_Letters_hexOf (m_Row_get l0 (i5 + 1)))), (6, .int (m_Row_get l0 i5)), (0, .ref a0), (2, .int i2), (3, .int i3), (4, .ref a1), (5, .int i5)]) hx hb d_Uncoder_unquote_70 hl (by decide) rfl (fun ls hl => ?_)
              refine lv_iload hx hb d_Uncoder_unquote_72 (lv_at hl 0 rfl) ?_
              refine lv_iconst (v := (-1)) hx hb d_Uncoder_unquote_74 (by decide) ?_
              refine lv_icmp_eq (tgt := 97) hx hb d_Uncoder_unquote_75 (by decide) (fun c_30 => ?_) (fun c_30 => ?_)
              · rw [if_pos c_30] at hF
                refine lv_aload hx hb d_Uncoder_unquote_97 (lv_at hl 6 rfl) ?_
                refine lv_iload_n hx hb d_Uncoder_unquote_99 rfl (lv_at hl 5 rfl) ?_
                refine lv_if_eq (tgt := 115) hx hb d_Uncoder_unquote_100 (by decide) (fun c_31 => ?_) (fun c_31 => ?_)
                · rw [if_pos c_31] at hF
                  refine lv_iload hx hb d_Uncoder_unquote_115 (lv_at hl 2 rfl) ?_
                  refine g_Vv (As := [.int (m_Row_get l0 i5)]) (rest := []) (wr := [(a0, .inr (4, [.ref b0, .int (nI l0.length), .int o0])), (b0, .inl (kI, n0, .inl f0))]) ⟨hx, hb, hml, hown, hts⟩ (c_Row_put l D Z kI a1 b1 n1 H.size f1 l1 o1 (m_Row_get l0 i5) hr1) (cw_Row_put hts k_508 ⟨Nat.le_of_ble_eq_true rfl, Nat.le_of_ble_eq_true rfl⟩) hK hZ hP hD hS hA [0, 1] [2, 3] (g_recv hK hP (ci := 4) (q0 := 0) rfl rfl) rfl rfl (by decide) (by decide) (by decide) rfl hl.1 rfl (Nat.le_of_ble_eq_true rfl) d_Uncoder_unquote_117 ⟨Nat.zero_le _, Nat.zero_le _⟩ (fun u_32 H locs hw hP hD hS => ?_)
                  obtain ⟨f0_32, l0_32, o0_32⟩ := u_32
                  have e_32 := hw.1
                  have hr0_32 := hw.2
                  have hP : va_P D vwCl [(a0, .inr (4, [.ref b0, .int (nI l0.length), .int o0])), (b0, .inl (kI, n0, .inl f0)), (a1, .inr (4, [.ref b1, .int (nI l0_32.length), .int o0_32])), (b1, .inl (kI, n1, .inl f0_32))] H := hP
                  have hD : va_D A [(a0, .inr (4, [.ref b0, .int (nI l0.length), .int o0])), (b0, .inl (kI, n0, .inl f0)), (a1, .inr (4, [.ref b1, .int (nI l0_32.length), .int o0_32])), (b1, .inl (kI, n1, .inl f0_32))] := hD
                  rw [e_32] at hF; dsimp only at hF
                  refine lv_iinc (v := (i5 + 1)) (lv' := [(5, .int (i5 + 1)), (8, .int (m_Letters_hexOf (m_Row_get l0 (i5 + 2)))), (7, .int (m_Letters_hexOf (m_Row_get l0 (i5 + 1)))), (6, .int (m_Row_get l0 i5)), (0, .ref a0), (2, .int i2), (3, .int i3), (4, .ref a1)]) hx hb d_Uncoder_unquote_120 hl (k := 7) rfl rfl (by decide) rfl (fun ls hl => ?_)
                  refine lv_goto (tgt := 3) hx hb d_Uncoder_unquote_123 (by decide) ?_
                  exact ih3 i2 i3 (i5 + 1) f0_32 l0_32 o0_32 hr0_32 _ _ _  (Nat.lt_of_lt_of_le (g_dec1 c_1) (Nat.le_of_lt_succ hn3)) hF hP hD hS (lv_sub hl [4, 5, 6, 7, 0] rfl)
                · rw [if_neg c_31] at hF
                  refine lv_iload hx hb d_Uncoder_unquote_103 (lv_at hl 2 rfl) ?_
                  refine lv_bipush (v := 95) hx hb d_Uncoder_unquote_105 (by decide) ?_
                  refine lv_icmp_ne (tgt := 115) hx hb d_Uncoder_unquote_107 (by decide) (fun c_33 => ?_) (fun c_33 => ?_)
                  · rw [if_neg c_33] at hF
                    refine lv_iload hx hb d_Uncoder_unquote_115 (lv_at hl 2 rfl) ?_
                    refine g_Vv (As := [.int (m_Row_get l0 i5)]) (rest := []) (wr := [(a0, .inr (4, [.ref b0, .int (nI l0.length), .int o0])), (b0, .inl (kI, n0, .inl f0))]) ⟨hx, hb, hml, hown, hts⟩ (c_Row_put l D Z kI a1 b1 n1 H.size f1 l1 o1 (m_Row_get l0 i5) hr1) (cw_Row_put hts k_508 ⟨Nat.le_of_ble_eq_true rfl, Nat.le_of_ble_eq_true rfl⟩) hK hZ hP hD hS hA [0, 1] [2, 3] (g_recv hK hP (ci := 4) (q0 := 0) rfl rfl) rfl rfl (by decide) (by decide) (by decide) rfl hl.1 rfl (Nat.le_of_ble_eq_true rfl) d_Uncoder_unquote_117 ⟨Nat.zero_le _, Nat.zero_le _⟩ (fun u_34 H locs hw hP hD hS => ?_)
                    obtain ⟨f0_34, l0_34, o0_34⟩ := u_34
                    have e_34 := hw.1
                    have hr0_34 := hw.2
                    have hP : va_P D vwCl [(a0, .inr (4, [.ref b0, .int (nI l0.length), .int o0])), (b0, .inl (kI, n0, .inl f0)), (a1, .inr (4, [.ref b1, .int (nI l0_34.length), .int o0_34])), (b1, .inl (kI, n1, .inl f0_34))] H := hP
                    have hD : va_D A [(a0, .inr (4, [.ref b0, .int (nI l0.length), .int o0])), (b0, .inl (kI, n0, .inl f0)), (a1, .inr (4, [.ref b1, .int (nI l0_34.length), .int o0_34])), (b1, .inl (kI, n1, .inl f0_34))] := hD
                    rw [e_34] at hF; dsimp only at hF
                    refine lv_iinc (v := (i5 + 1)) (lv' := [(5, .int (i5 + 1)), (8, .int (m_Letters_hexOf (m_Row_get l0 (i5 + 2)))), (7, .int (m_Letters_hexOf (m_Row_get l0 (i5 + 1)))), (6, .int (m_Row_get l0 i5)), (0, .ref a0), (2, .int i2), (3, .int i3), (4, .ref a1)]) hx hb d_Uncoder_unquote_120 hl (k := 7) rfl rfl (by decide) rfl (fun ls hl => ?_)
                    refine lv_goto (tgt := 3) hx hb d_Uncoder_unquote_123 (by decide) ?_
                    exact ih3 i2 i3 (i5 + 1) f0_34 l0_34 o0_34 hr0_34 _ _ _  (Nat.lt_of_lt_of_le (g_dec1 c_1) (Nat.le_of_lt_succ hn3)) hF hP hD hS (lv_sub hl [4, 5, 6, 7, 0] rfl)
                  · rw [if_pos c_33] at hF
                    refine lv_bipush (v := 32) hx hb d_Uncoder_unquote_110 (by decide) ?_
                    refine lv_goto (tgt := 117) hx hb d_Uncoder_unquote_112 (by decide) ?_
                    refine g_Vv (As := [.int 32]) (rest := []) (wr := [(a0, .inr (4, [.ref b0, .int (nI l0.length), .int o0])), (b0, .inl (kI, n0, .inl f0))]) ⟨hx, hb, hml, hown, hts⟩ (c_Row_put l D Z kI a1 b1 n1 H.size f1 l1 o1 32 hr1) (cw_Row_put hts k_508 ⟨Nat.le_of_ble_eq_true rfl, Nat.le_of_ble_eq_true rfl⟩) hK hZ hP hD hS hA [0, 1] [2, 3] (g_recv hK hP (ci := 4) (q0 := 0) rfl rfl) rfl rfl (by decide) (by decide) (by decide) rfl hl.1 rfl (Nat.le_of_ble_eq_true rfl) d_Uncoder_unquote_117 ⟨Nat.zero_le _, Nat.zero_le _⟩ (fun u_35 H locs hw hP hD hS => ?_)
                    obtain ⟨f0_35, l0_35, o0_35⟩ := u_35
                    have e_35 := hw.1
                    have hr0_35 := hw.2
                    have hP : va_P D vwCl [(a0, .inr (4, [.ref b0, .int (nI l0.length), .int o0])), (b0, .inl (kI, n0, .inl f0)), (a1, .inr (4, [.ref b1, .int (nI l0_35.length), .int o0_35])), (b1, .inl (kI, n1, .inl f0_35))] H := hP
                    have hD : va_D A [(a0, .inr (4, [.ref b0, .int (nI l0.length), .int o0])), (b0, .inl (kI, n0, .inl f0)), (a1, .inr (4, [.ref b1, .int (nI l0_35.length), .int o0_35])), (b1, .inl (kI, n1, .inl f0_35))] := hD
                    rw [e_35] at hF; dsimp only at hF
                    refine lv_iinc (v := (i5 + 1)) (lv' := [(5, .int (i5 + 1)), (8, .int (m_Letters_hexOf (m_Row_get l0 (i5 + 2)))), (7, .int (m_Letters_hexOf (m_Row_get l0 (i5 + 1)))), (6, .int (m_Row_get l0 i5)), (0, .ref a0), (2, .int i2), (3, .int i3), (4, .ref a1)]) hx hb d_Uncoder_unquote_120 hl (k := 7) rfl rfl (by decide) rfl (fun ls hl => ?_)
                    refine lv_goto (tgt := 3) hx hb d_Uncoder_unquote_123 (by decide) ?_
                    exact ih3 i2 i3 (i5 + 1) f0_35 l0_35 o0_35 hr0_35 _ _ _  (Nat.lt_of_lt_of_le (g_dec1 c_1) (Nat.le_of_lt_succ hn3)) hF hP hD hS (lv_sub hl [4, 5, 6, 7, 0] rfl)
              · rw [if_neg c_30] at hF
                refine lv_aload hx hb d_Uncoder_unquote_78 (lv_at hl 6 rfl) ?_
                refine lv_iload hx hb d_Uncoder_unquote_80 (lv_at hl 1 rfl) ?_
                refine lv_bipush (v := 16) hx hb d_Uncoder_unquote_82 (by decide) ?_
                refine lv_imul hx hb d_Uncoder_unquote_84 ?_
                refine lv_iload hx hb d_Uncoder_unquote_85 (lv_at hl 0 rfl) ?_
                refine lv_iadd hx hb d_Uncoder_unquote_87 ?_
                refine g_Vv (As := [.int (((m_Letters_hexOf (m_Row_get l0 (i5 + 1))) * 16) + (m_Letters_hexOf (m_Row_get l0 (i5 + 2))))]) (rest := []) (wr := [(a0, .inr (4, [.ref b0, .int (nI l0.length), .int o0])), (b0, .inl (kI, n0, .inl f0))]) ⟨hx, hb, hml, hown, hts⟩ (c_Row_put l D Z kI a1 b1 n1 H.size f1 l1 o1 (((m_Letters_hexOf (m_Row_get l0 (i5 + 1))) * 16) + (m_Letters_hexOf (m_Row_get l0 (i5 + 2)))) hr1) (cw_Row_put hts k_508 ⟨Nat.le_of_ble_eq_true rfl, Nat.le_of_ble_eq_true rfl⟩) hK hZ hP hD hS hA [0, 1] [2, 3] (g_recv hK hP (ci := 4) (q0 := 0) rfl rfl) rfl rfl (by decide) (by decide) (by decide) rfl hl.1 rfl (Nat.le_of_ble_eq_true rfl) d_Uncoder_unquote_88 ⟨Nat.zero_le _, Nat.zero_le _⟩ (fun u_36 H locs hw hP hD hS => ?_)
                obtain ⟨f0_36, l0_36, o0_36⟩ := u_36
                have e_36 := hw.1
                have hr0_36 := hw.2
                have hP : va_P D vwCl [(a0, .inr (4, [.ref b0, .int (nI l0.length), .int o0])), (b0, .inl (kI, n0, .inl f0)), (a1, .inr (4, [.ref b1, .int (nI l0_36.length), .int o0_36])), (b1, .inl (kI, n1, .inl f0_36))] H := hP
                have hD : va_D A [(a0, .inr (4, [.ref b0, .int (nI l0.length), .int o0])), (b0, .inl (kI, n0, .inl f0)), (a1, .inr (4, [.ref b1, .int (nI l0_36.length), .int o0_36])), (b1, .inl (kI, n1, .inl f0_36))] := hD
                rw [e_36] at hF; dsimp only at hF
                refine lv_iinc (v := (i5 + 2)) (lv' := [(5, .int (i5 + 2)), (8, .int (m_Letters_hexOf (m_Row_get l0 (i5 + 2)))), (7, .int (m_Letters_hexOf (m_Row_get l0 (i5 + 1)))), (6, .int (m_Row_get l0 i5)), (0, .ref a0), (2, .int i2), (3, .int i3), (4, .ref a1)]) hx hb d_Uncoder_unquote_91 hl (k := 7) rfl rfl (by decide) rfl (fun ls hl => ?_)
                refine lv_goto (tgt := 120) hx hb d_Uncoder_unquote_94 (by decide) ?_
                refine lv_iinc (v := ((i5 + 2) + 1)) (lv' := [(5, .int ((i5 + 2) + 1)), (8, .int (m_Letters_hexOf (m_Row_get l0 (i5 + 2)))), (7, .int (m_Letters_hexOf (m_Row_get l0 (i5 + 1)))), (6, .int (m_Row_get l0 i5)), (0, .ref a0), (2, .int i2), (3, .int i3), (4, .ref a1)]) hx hb d_Uncoder_unquote_120 hl (k := 0) rfl rfl (by decide) rfl (fun ls hl => ?_)
                refine lv_goto (tgt := 3) hx hb d_Uncoder_unquote_123 (by decide) ?_
                exact ih3 i2 i3 ((i5 + 2) + 1) f0_36 l0_36 o0_36 hr0_36 _ _ _  (Nat.lt_of_lt_of_le (g_dec3 hr0 c_3 c_11) (Nat.le_of_lt_succ hn3)) hF hP hD hS (lv_sub hl [4, 5, 6, 7, 0] rfl)
  have hF := hRES
  rw [m_Uncoder_unquote] at hF
  refine lv_iload_n hx hb d_Uncoder_unquote_0 rfl (lv_at hl 1 rfl) ?_
  refine lv_istore (lv' := [(5, .int p1), (0, .ref a0), (1, .int p1), (2, .int p2), (3, .int p3), (4, .ref a1)]) hx hb d_Uncoder_unquote_1 hl (by decide) rfl (fun ls hl => ?_)
  exact lp3 ((p2.toInt - p1.toInt).toNat + 1) p2 p3 p1 f1 l1 o1 hr1 _ _ _  (Nat.lt_succ_self _) hF hP hD hS (lv_sub hl [1, 3, 4, 5, 0] rfl)
theorem cw_Uncoder_unquote {R : Room} {s : State} {args : Array Value} {own : String} {idx : Nat} (hts : ∀ w ∈ gW, w.before args s = true) (hl : Cond.methodLink own idx y_Uncoder_unquote ∈ gW) (hR : rm_Uncoder_unquote.frames + 1 ≤ R.frames ∧ 8 + (9 + 11) + rm_Uncoder_unquote.locals ≤ R.locals) : CallB R s args own idx y_Uncoder_unquote b_Uncoder_unquote 9 none w_Uncoder_unquote rm_Uncoder_unquote 0 0 5 ∧ (Cond.static y_Uncoder_unquote).before args s = true := va_cwS 5 hts (gW_S hl k_510 k_70 k_511) rfl rfl rfl (by decide +kernel) hR
def m_MC_count (l1 : List Int32) (l2 : List Int32) (p1 : Int32) : Int32 :=
  if p1 = 0 then
    (m_Row_size l1)
  else
    if p1 = 1 then
      (m_Row_size l2)
    else
      if p1 = 2 then
        (m_Row_countOf l2 65533)
      else
        (-1)
def rm_MC_count : Room := { frames := 2, cells := 0, slots := 0, locals := 44 }
set_option maxHeartbeats 4000000 in
set_option maxRecDepth 100000 in
theorem c_MC_count (l : Launch) (D : va_G) (Z : gZT) (kI : ClassId) (a0 : Nat) (x0_ready : Nat) (x0_uncoder : Nat) (x0_coder : Nat) (x0_reader : Nat) (x0_writer : Nat) (x0_word : Nat) (x0_spare : Nat) (a1 : Nat) (b1 : Nat) (n1 : Nat) (a2 : Nat) (b2 : Nat) (n2 : Nat) (sz : Nat) (f1 : Nat → Int32) (l1 : List Int32) (o1 : Int32) (f2 : Nat → Int32) (l2 : List Int32) (o2 : Int32) (p1 : Int32) (hr1 : g_rw n1 f1 l1) (hr2 : g_rw n2 f2 l2) : gMi l y_MC_count w_MC_count rm_MC_count D Z kI [.ref a0, .int p1] sz [(a0, .inr (8, [.ref x0_ready, .ref a2, .ref x0_uncoder, .ref x0_coder, .ref x0_reader, .ref x0_writer, .ref x0_word, .ref a1, .ref x0_spare])), (a1, .inr (4, [.ref b1, .int (nI l1.length), .int o1])), (b1, .inl (kI, n1, .inl f1)), (a2, .inr (4, [.ref b2, .int (nI l2.length), .int o2])), (b2, .inl (kI, n2, .inl f2))] (fun (r : Int32) (_u : Unit) => m_MC_count l1 l2 p1 = r) (fun (_u : Unit) => ([(a0, .inr (8, [.ref x0_ready, .ref a2, .ref x0_uncoder, .ref x0_coder, .ref x0_reader, .ref x0_writer, .ref x0_word, .ref a1, .ref x0_spare])), (a1, .inr (4, [.ref b1, .int (nI l1.length), .int o1])), (b1, .inl (kI, n1, .inl f1)), (a2, .inr (4, [.ref b2, .int (nI l2.length), .int o2])), (b2, .inl (kI, n2, .inl f2))] : va_W)) := by
  refine g_ofi (cc := b_MC_count) (maxL := 2) (ty := .int) (by decide) rfl (Nat.le_of_ble_eq_true rfl) ?_
  intro p e s m below meth c A Q H ls hx hb hml hown hts hA hK hZ hP hD hS hl hret
  have hown : s.vm.findClass "MailCharacters" = some m.cls := hown
  have hl : lv_has ls 2 [(0, .ref a0), (1, .int p1)] := hl
  obtain ⟨RES, hRES⟩ : ∃ z, z = m_MC_count l1 l2 p1 := ⟨_, rfl⟩
  have hF := hRES
  rw [m_MC_count] at hF
  refine lv_iload_n hx hb d_MC_count_0 rfl (lv_at hl 1 rfl) ?_
  by_cases c_1 : p1 = 0
  · rw [if_pos c_1] at hF
    refine lv_tableIn (off := 27) (tgt := 28) hx hb d_MC_count_1 (by rw [c_1]; decide) (by rw [c_1]; decide) (by rw [c_1]; decide) (by decide) ?_
    refine lv_aload_n hx hb d_MC_count_28 rfl (lv_at hl 0 rfl) ?_
    refine va_get (D := D) (ci := 8) (v := .ref a1) (C := "MailCharacters") (T := F_MC) (N := 9) hx hb hts i_MC hown hK hP 0 rfl rfl 7 (by decide) (hts _ k_243) (fun _ h9 => h9) rfl d_MC_count_29 ?_
    refine g_Vi (As := []) (rest := []) (wr := [(a0, .inr (8, [.ref x0_ready, .ref a2, .ref x0_uncoder, .ref x0_coder, .ref x0_reader, .ref x0_writer, .ref x0_word, .ref a1, .ref x0_spare])), (a2, .inr (4, [.ref b2, .int (nI l2.length), .int o2])), (b2, .inl (kI, n2, .inl f2))]) ⟨hx, hb, hml, hown, hts⟩ (c_Row_size l D Z kI a1 b1 n1 H.size f1 l1 o1 hr1) (cw_Row_size hts k_281 ⟨Nat.le_of_ble_eq_true rfl, Nat.le_of_ble_eq_true rfl⟩) hK hZ hP hD hS hA [1, 2] [0, 3, 4] (g_recv hK hP (ci := 4) (q0 := 1) rfl rfl) rfl rfl (by decide) (by decide) (by decide) rfl hl.1 rfl (Nat.le_of_ble_eq_true rfl) d_MC_count_32 ⟨Nat.zero_le _, Nat.zero_le _⟩ (fun r_2 u_2 H locs hw hP hD hS => ?_)
    have e_2 := hw
    subst e_2
    have hP : va_P D vwCl [(a0, .inr (8, [.ref x0_ready, .ref a2, .ref x0_uncoder, .ref x0_coder, .ref x0_reader, .ref x0_writer, .ref x0_word, .ref a1, .ref x0_spare])), (a2, .inr (4, [.ref b2, .int (nI l2.length), .int o2])), (b2, .inl (kI, n2, .inl f2)), (a1, .inr (4, [.ref b1, .int (nI l1.length), .int o1])), (b1, .inl (kI, n1, .inl f1))] H := hP
    have hD : va_D A [(a0, .inr (8, [.ref x0_ready, .ref a2, .ref x0_uncoder, .ref x0_coder, .ref x0_reader, .ref x0_writer, .ref x0_word, .ref a1, .ref x0_spare])), (a2, .inr (4, [.ref b2, .int (nI l2.length), .int o2])), (b2, .inl (kI, n2, .inl f2)), (a1, .inr (4, [.ref b1, .int (nI l1.length), .int o1])), (b1, .inl (kI, n1, .inl f1))] := hD
    exact hret (m_Row_size l1) () _ _ _ _ d_MC_count_35 rfl (hRES.symm.trans hF) (hP.sub [0, 3, 4, 1, 2] rfl) (hD.sub [0, 3, 4, 1, 2] (by decide) rfl) hS
  rw [if_neg c_1] at hF
  by_cases c_3 : p1 = 1
  · rw [if_pos c_3] at hF
    refine lv_tableIn (off := 35) (tgt := 36) hx hb d_MC_count_1 (by rw [c_3]; decide) (by rw [c_3]; decide) (by rw [c_3]; decide) (by decide) ?_
    refine lv_aload_n hx hb d_MC_count_36 rfl (lv_at hl 0 rfl) ?_
    refine va_get (D := D) (ci := 8) (v := .ref a2) (C := "MailCharacters") (T := F_MC) (N := 9) hx hb hts i_MC hown hK hP 0 rfl rfl 1 (by decide) (hts _ k_237) (fun _ h9 => h9) rfl d_MC_count_37 ?_
    refine g_Vi (As := []) (rest := []) (wr := [(a0, .inr (8, [.ref x0_ready, .ref a2, .ref x0_uncoder, .ref x0_coder, .ref x0_reader, .ref x0_writer, .ref x0_word, .ref a1, .ref x0_spare])), (a1, .inr (4, [.ref b1, .int (nI l1.length), .int o1])), (b1, .inl (kI, n1, .inl f1))]) ⟨hx, hb, hml, hown, hts⟩ (c_Row_size l D Z kI a2 b2 n2 H.size f2 l2 o2 hr2) (cw_Row_size hts k_281 ⟨Nat.le_of_ble_eq_true rfl, Nat.le_of_ble_eq_true rfl⟩) hK hZ hP hD hS hA [3, 4] [0, 1, 2] (g_recv hK hP (ci := 4) (q0 := 3) rfl rfl) rfl rfl (by decide) (by decide) (by decide) rfl hl.1 rfl (Nat.le_of_ble_eq_true rfl) d_MC_count_40 ⟨Nat.zero_le _, Nat.zero_le _⟩ (fun r_4 u_4 H locs hw hP hD hS => ?_)
    have e_4 := hw
    subst e_4
    have hP : va_P D vwCl [(a0, .inr (8, [.ref x0_ready, .ref a2, .ref x0_uncoder, .ref x0_coder, .ref x0_reader, .ref x0_writer, .ref x0_word, .ref a1, .ref x0_spare])), (a1, .inr (4, [.ref b1, .int (nI l1.length), .int o1])), (b1, .inl (kI, n1, .inl f1)), (a2, .inr (4, [.ref b2, .int (nI l2.length), .int o2])), (b2, .inl (kI, n2, .inl f2))] H := hP
    have hD : va_D A [(a0, .inr (8, [.ref x0_ready, .ref a2, .ref x0_uncoder, .ref x0_coder, .ref x0_reader, .ref x0_writer, .ref x0_word, .ref a1, .ref x0_spare])), (a1, .inr (4, [.ref b1, .int (nI l1.length), .int o1])), (b1, .inl (kI, n1, .inl f1)), (a2, .inr (4, [.ref b2, .int (nI l2.length), .int o2])), (b2, .inl (kI, n2, .inl f2))] := hD
    exact hret (m_Row_size l2) () _ _ _ _ d_MC_count_43 rfl (hRES.symm.trans hF) hP hD hS
  rw [if_neg c_3] at hF
  by_cases c_5 : p1 = 2
  · rw [if_pos c_5] at hF
    refine lv_tableIn (off := 43) (tgt := 44) hx hb d_MC_count_1 (by rw [c_5]; decide) (by rw [c_5]; decide) (by rw [c_5]; decide) (by decide) ?_
    refine lv_aload_n hx hb d_MC_count_44 rfl (lv_at hl 0 rfl) ?_
    refine va_get (D := D) (ci := 8) (v := .ref a2) (C := "MailCharacters") (T := F_MC) (N := 9) hx hb hts i_MC hown hK hP 0 rfl rfl 1 (by decide) (hts _ k_237) (fun _ h9 => h9) rfl d_MC_count_45 ?_
    refine lv_ldc hx hb hown (hts _ k_527) d_MC_count_48 ?_
    refine g_Vi (As := [.int 65533]) (rest := []) (wr := [(a0, .inr (8, [.ref x0_ready, .ref a2, .ref x0_uncoder, .ref x0_coder, .ref x0_reader, .ref x0_writer, .ref x0_word, .ref a1, .ref x0_spare])), (a1, .inr (4, [.ref b1, .int (nI l1.length), .int o1])), (b1, .inl (kI, n1, .inl f1))]) ⟨hx, hb, hml, hown, hts⟩ (c_Row_countOf l D Z kI a2 b2 n2 H.size f2 l2 o2 65533 hr2) (cw_Row_countOf hts k_528 ⟨Nat.le_of_ble_eq_true rfl, Nat.le_of_ble_eq_true rfl⟩) hK hZ hP hD hS hA [3, 4] [0, 1, 2] (g_recv hK hP (ci := 4) (q0 := 3) rfl rfl) rfl rfl (by decide) (by decide) (by decide) rfl hl.1 rfl (Nat.le_of_ble_eq_true rfl) d_MC_count_50 ⟨Nat.zero_le _, Nat.zero_le _⟩ (fun r_6 u_6 H locs hw hP hD hS => ?_)
    have e_6 := hw
    subst e_6
    have hP : va_P D vwCl [(a0, .inr (8, [.ref x0_ready, .ref a2, .ref x0_uncoder, .ref x0_coder, .ref x0_reader, .ref x0_writer, .ref x0_word, .ref a1, .ref x0_spare])), (a1, .inr (4, [.ref b1, .int (nI l1.length), .int o1])), (b1, .inl (kI, n1, .inl f1)), (a2, .inr (4, [.ref b2, .int (nI l2.length), .int o2])), (b2, .inl (kI, n2, .inl f2))] H := hP
    have hD : va_D A [(a0, .inr (8, [.ref x0_ready, .ref a2, .ref x0_uncoder, .ref x0_coder, .ref x0_reader, .ref x0_writer, .ref x0_word, .ref a1, .ref x0_spare])), (a1, .inr (4, [.ref b1, .int (nI l1.length), .int o1])), (b1, .inl (kI, n1, .inl f1)), (a2, .inr (4, [.ref b2, .int (nI l2.length), .int o2])), (b2, .inl (kI, n2, .inl f2))] := hD
    exact hret (m_Row_countOf l2 65533) () _ _ _ _ d_MC_count_53 rfl (hRES.symm.trans hF) hP hD hS
  rw [if_neg c_5] at hF
  refine lv_tableOut (tgt := 54) hx hb d_MC_count_1 (by have := lv_neT c_1 (a := 0) (by decide); have := lv_neT c_3 (a := 1) (by decide); have := lv_neT c_5 (a := 2) (by decide); omega) (by decide) ?_
  refine lv_iconst (v := (-1)) hx hb d_MC_count_54 (by decide) ?_
  exact hret (-1) () _ _ _ _ d_MC_count_55 rfl (hRES.symm.trans hF) hP hD hS
theorem cw_MC_count {R : Room} {s : State} {args : Array Value} {own : String} {idx : Nat} (hts : ∀ w ∈ gW, w.before args s = true) (hl : Cond.methodLink own idx y_MC_count ∈ gW) (hR : rm_MC_count.frames + 1 ≤ R.frames ∧ 8 + (2 + 11) + rm_MC_count.locals ≤ R.locals) : CallW R s args own "MailCharacters" idx y_MC_count b_MC_count 2 (some .int) w_MC_count rm_MC_count 0 0 1 := cwV 1 hts (gW_V hl k_524 k_525 k_67 k_526) rfl rfl rfl (by decide +kernel) hR
