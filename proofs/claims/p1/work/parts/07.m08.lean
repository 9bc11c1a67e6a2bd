def m_Names_charsetOf (l0 : List Int32) (p1 : Int32) (p2 : Int32) : Int32 :=
  if (m_Names_isOneOf l0 p1 p2 (m_Names_namesOf 0)) = 0 then
    if (m_Names_isOneOf l0 p1 p2 (m_Names_namesOf 1)) = 0 then
      if (m_Names_isOneOf l0 p1 p2 (m_Names_namesOf 2)) = 0 then
        if (m_Names_isOneOf l0 p1 p2 (m_Names_namesOf 3)) = 0 then
          if (m_Names_isOneOf l0 p1 p2 (m_Names_namesOf 4)) = 0 then
            if (m_Names_isOneOf l0 p1 p2 (m_Names_namesOf 5)) = 0 then
              if (m_Names_isOneOf l0 p1 p2 (m_Names_namesOf 6)) = 0 then
                if (m_Names_isOneOf l0 p1 p2 (m_Names_namesOf 7)) = 0 then
                  if (m_Names_isOneOf l0 p1 p2 (m_Names_namesOf 8)) = 0 then
                    if (m_Names_isOneOf l0 p1 p2 (m_Names_namesOf 9)) = 0 then
                      (-1)
                    else
                      9
                  else
                    8
                else
                  7
              else
                6
            else
              5
          else
            4
        else
          3
      else
        2
    else
      1
  else
    0
def rm_Names_charsetOf : Room := { frames := 6, cells := 0, slots := 0, locals := 135 }
set_option maxHeartbeats 4000000 in
set_option maxRecDepth 100000 in
theorem c_Names_charsetOf (l : Launch) (D : va_G) (Z : gZT) (kI : ClassId) (a0 : Nat) (b0 : Nat) (n0 : Nat) (sz : Nat) (f0 : Nat → Int32) (l0 : List Int32) (o0 : Int32) (p1 : Int32) (p2 : Int32) (hr0 : g_rw n0 f0 l0) : gMi l y_Names_charsetOf w_Names_charsetOf rm_Names_charsetOf D Z kI [.ref a0, .int p1, .int p2] sz [(a0, .inr (4, [.ref b0, .int (nI l0.length), .int o0])), (b0, .inl (kI, n0, .inl f0))] (fun (r : Int32) (_u : Unit) => m_Names_charsetOf l0 p1 p2 = r) (fun (_u : Unit) => ([(a0, .inr (4, [.ref b0, .int (nI l0.length), .int o0])), (b0, .inl (kI, n0, .inl f0))] : va_W)) := by
  refine g_ofi (cc := b_Names_charsetOf) (maxL := 4) (ty := .int) (by decide) rfl (Nat.le_of_ble_eq_true rfl) ?_
  intro p e s m below meth c A Q H ls hx hb hml hown hts hA hK hZ hP hD hS hl hret
  have hown : s.vm.findClass "MailCharacters$Names" = some m.cls := hown
  have hl : lv_has ls 4 [(0, .ref a0), (1, .int p1), (2, .int p2)] := hl
  obtain ⟨RES, hRES⟩ : ∃ z, z = m_Names_charsetOf l0 p1 p2 := ⟨_, rfl⟩
  have hF := hRES
  rw [m_Names_charsetOf] at hF
  refine lv_iconst (v := 0) hx hb d_Names_charsetOf_0 (by decide) ?_
  refine lv_istore_n (lv' := [(3, .int 0), (0, .ref a0), (1, .int p1), (2, .int p2)]) hx hb d_Names_charsetOf_1 rfl hl (by decide) rfl (fun ls hl => ?_)
  refine lv_iload_n hx hb d_Names_charsetOf_2 rfl (lv_at hl 0 rfl) ?_
  refine lv_bipush (v := 9) hx hb d_Names_charsetOf_3 (by decide) ?_
  refine lv_icmp_gt (tgt := 29) hx hb d_Names_charsetOf_5 (by decide) (fun c_1 => ?_) (fun c_1 => ?_)
  · exact absurd c_1 (by decide)
  · refine lv_aload_n hx hb d_Names_charsetOf_8 rfl (lv_at hl 1 rfl) ?_
    refine lv_iload_n hx hb d_Names_charsetOf_9 rfl (lv_at hl 2 rfl) ?_
    refine lv_iload_n hx hb d_Names_charsetOf_10 rfl (lv_at hl 3 rfl) ?_
    refine lv_iload_n hx hb d_Names_charsetOf_11 rfl (lv_at hl 0 rfl) ?_
    refine g_Sr (As := [.int 0]) (rest := [.int p2, .int p1, .ref a0]) (wr := [(a0, .inr (4, [.ref b0, .int (nI l0.length), .int o0])), (b0, .inl (kI, n0, .inl f0))]) ⟨hx, hb, hml, hown, hts⟩ (c_Names_namesOf l D Z kI H.size 0) (cw_Names_namesOf hts k_292 ⟨Nat.le_of_ble_eq_true rfl, Nat.le_of_ble_eq_true rfl⟩) hK hZ hP hD hS hA [] [0, 1] rfl rfl (by decide) (by decide) (by decide) rfl hl.1 rfl (Nat.le_of_ble_eq_true rfl) d_Names_charsetOf_12 ⟨Nat.zero_le _, Nat.zero_le _⟩ (fun r_2  H locs hw hP hD hS => ?_)
    have e_2 := hw.1
    have hq0_2 := hw.2
    subst e_2
    have hP : va_P D vwCl [(a0, .inr (4, [.ref b0, .int (nI l0.length), .int o0])), (b0, .inl (kI, n0, .inl f0))] H := hP
    have hD : va_D A [(a0, .inr (4, [.ref b0, .int (nI l0.length), .int o0])), (b0, .inl (kI, n0, .inl f0))] := hD
    refine g_Si (As := [.ref a0, .int p1, .int p2, .ref (Z.1 (m_Names_namesOf 0))]) (rest := []) (wr := []) ⟨hx, hb, hml, hown, hts⟩ (c_Names_isOneOf l D Z kI a0 b0 n0 H.size f0 l0 o0 p1 p2 (m_Names_namesOf 0) hr0 hq0_2) (cw_Names_isOneOf hts k_306 ⟨Nat.le_of_ble_eq_true rfl, Nat.le_of_ble_eq_true rfl⟩) hK hZ hP hD hS hA [0, 1] [] rfl rfl (by decide) (by decide) (by decide) rfl hl.1 rfl (Nat.le_of_ble_eq_true rfl) d_Names_charsetOf_15 ⟨Nat.zero_le _, Nat.zero_le _⟩ (fun r_3 u_3 H locs hw hP hD hS => ?_)
    have e_3 := hw
    subst e_3
    have hP : va_P D vwCl [(a0, .inr (4, [.ref b0, .int (nI l0.length), .int o0])), (b0, .inl (kI, n0, .inl f0))] H := hP
    have hD : va_D A [(a0, .inr (4, [.ref b0, .int (nI l0.length), .int o0])), (b0, .inl (kI, n0, .inl f0))] := hD
    refine lv_if_eq (tgt := 23) hx hb d_Names_charsetOf_18 (by decide) (fun c_4 => ?_) (fun c_4 => ?_)
    · rw [if_pos c_4] at hF
      refine lv_iinc (v := 1) (lv' := [(3, .int 1), (0, .ref a0), (1, .int p1), (2, .int p2)]) hx hb d_Names_charsetOf_23 hl (k := 0) rfl (by decide) (by decide) rfl (fun ls hl => ?_)
      refine lv_goto (tgt := 2) hx hb d_Names_charsetOf_26 (by decide) ?_
      refine lv_iload_n hx hb d_Names_charsetOf_2 rfl (lv_at hl 0 rfl) ?_
      refine lv_bipush (v := 9) hx hb d_Names_charsetOf_3 (by decide) ?_
      refine lv_icmp_gt (tgt := 29) hx hb d_Names_charsetOf_5 (by decide) (fun c_5 => ?_) (fun c_5 => ?_)
      · exact absurd c_5 (by decide)
      · refine lv_aload_n hx hb d_Names_charsetOf_8 rfl (lv_at hl 1 rfl) ?_
        refine lv_iload_n hx hb d_Names_charsetOf_9 rfl (lv_at hl 2 rfl) ?_
        refine lv_iload_n hx hb d_Names_charsetOf_10 rfl (lv_at hl 3 rfl) ?_
        refine lv_iload_n hx hb d_Names_charsetOf_11 rfl (lv_at hl 0 rfl) ?_
        refine g_Sr (As := [.int 1]) (rest := [.int p2, .int p1, .ref a0]) (wr := [(a0, .inr (4, [.ref b0, .int (nI l0.length), .int o0])), (b0, .inl (kI, n0, .inl f0))]) ⟨hx, hb, hml, hown, hts⟩ (c_Names_namesOf l D Z kI H.size 1) (cw_Names_namesOf hts k_292 ⟨Nat.le_of_ble_eq_true rfl, Nat.le_of_ble_eq_true rfl⟩) hK hZ hP hD hS hA [] [0, 1] rfl rfl (by decide) (by decide) (by decide) rfl hl.1 rfl (Nat.le_of_ble_eq_true rfl) d_Names_charsetOf_12 ⟨Nat.zero_le _, Nat.zero_le _⟩ (fun r_6  H locs hw hP hD hS => ?_)
        have e_6 := hw.1
        have hq0_6 := hw.2
        subst e_6
        have hP : va_P D vwCl [(a0, .inr (4, [.ref b0, .int (nI l0.length), .int o0])), (b0, .inl (kI, n0, .inl f0))] H := hP
        have hD : va_D A [(a0, .inr (4, [.ref b0, .int (nI l0.length), .int o0])), (b0, .inl (kI, n0, .inl f0))] := hD
        refine g_Si (As := [.ref a0, .int p1, .int p2, .ref (Z.1 (m_Names_namesOf 1))]) (rest := []) (wr := []) ⟨hx, hb, hml, hown, hts⟩ (c_Names_isOneOf l D Z kI a0 b0 n0 H.size f0 l0 o0 p1 p2 (m_Names_namesOf 1) hr0 hq0_6) (cw_Names_isOneOf hts k_306 ⟨Nat.le_of_ble_eq_true rfl, Nat.le_of_ble_eq_true rfl⟩) hK hZ hP hD hS hA [0, 1] [] rfl rfl (by decide) (by decide) (by decide) rfl hl.1 rfl (Nat.le_of_ble_eq_true rfl) d_Names_charsetOf_15 ⟨Nat.zero_le _, Nat.zero_le _⟩ (fun r_7 u_7 H locs hw hP hD hS => ?_)
        have e_7 := hw
        subst e_7
        have hP : va_P D vwCl [(a0, .inr (4, [.ref b0, .int (nI l0.length), .int o0])), (b0, .inl (kI, n0, .inl f0))] H := hP
        have hD : va_D A [(a0, .inr (4, [.ref b0, .int (nI l0.length), .int o0])), (b0, .inl (kI, n0, .inl f0))] := hD
        refine lv_if_eq (tgt := 23) hx hb d_Names_charsetOf_18 (by decide) (fun c_8 => ?_) (fun c_8 => ?_)
        · rw [if_pos c_8] at hF
          refine lv_iinc (v := 2) (lv' := [(3, .int 2), (0, .ref a0), (1, .int p1), (2, .int p2)]) hx hb d_Names_charsetOf_23 hl (k := 0) rfl (by decide) (by decide) rfl (fun ls hl => ?_)
          refine lv_goto (tgt := 2) hx hb d_Names_charsetOf_26 (by decide) ?_
          refine lv_iload_n hx hb d_Names_charsetOf_2 rfl (lv_at hl 0 rfl) ?_
          refine lv_bipush (v := 9) hx hb d_Names_charsetOf_3 (by decide) ?_
          refine lv_icmp_gt (tgt := 29) hx hb d_Names_charsetOf_5 (by decide) (fun c_9 => ?_) (fun c_9 => ?_)
          · exact absurd c_9 (by decide)
          · refine lv_aload_n hx hb d_Names_charsetOf_8 rfl (lv_at hl 1 rfl) ?_
            refine lv_iload_n hx hb d_Names_charsetOf_9 rfl (lv_at hl 2 rfl) ?_
            refine lv_iload_n hx hb d_Names_charsetOf_10 rfl (lv_at hl 3 rfl) ?_
            refine lv_iload_n hx hb d_Names_charsetOf_11 rfl (lv_at hl 0 rfl) ?_
            refine g_Sr (As := [.int 2]) (rest := [.int p2, .int p1, .ref a0]) (wr := [(a0, .inr (4, [.ref b0, .int (nI l0.length), .int o0])), (b0, .inl (kI, n0, .inl f0))]) ⟨hx, hb, hml, hown, hts⟩ (c_Names_namesOf l D Z kI H.size 2) (cw_Names_namesOf hts k_292 ⟨Nat.le_of_ble_eq_true rfl, Nat.le_of_ble_eq_true rfl⟩) hK hZ hP hD hS hA [] [0, 1] rfl rfl (by decide) (by decide) (by decide) rfl hl.1 rfl (Nat.le_of_ble_eq_true rfl) d_Names_charsetOf_12 ⟨Nat.zero_le _, Nat.zero_le _⟩ (fun r_10  H locs hw hP hD hS => ?_)
            have e_10 := hw.1
            have hq0_10 := hw.2
            subst e_10
            have hP : va_P D vwCl [(a0, .inr (4, [.ref b0, .int (nI l0.length), .int o0])), (b0, .inl (kI, n0, .inl f0))] H := hP
            have hD : va_D A [(a0, .inr (4, [.ref b0, .int (nI l0.length), .int o0])), (b0, .inl (kI, n0, .inl f0))] := hD
            refine g_Si (As := [.ref a0, .int p1, .int p2, .ref (Z.1 (m_Names_namesOf 2))]) (rest := []) (wr := []) ⟨hx, hb, hml, hown, hts⟩ (c_Names_isOneOf l D Z kI a0 b0 n0 H.size f0 l0 o0 p1 p2 (m_Names_namesOf 2) hr0 hq0_10) (cw_Names_isOneOf hts k_306 ⟨Nat.le_of_ble_eq_true rfl, Nat.le_of_ble_eq_true rfl⟩) hK hZ hP hD hS hA [0, 1] [] rfl rfl (by decide) (by decide) (by decide) rfl hl.1 rfl (Nat.le_of_ble_eq_true rfl) d_Names_charsetOf_15 ⟨Nat.zero_le _, Nat.zero_le _⟩ (fun r_11 u_11 H locs hw hP hD hS => ?_)
            have e_11 := hw
            subst e_11
            have hP : va_P D vwCl [(a0, .inr (4, [.ref b0, .int (nI l0.length), .int o0])), (b0, .inl (kI, n0, .inl f0))] H := hP
            have hD : va_D A [(a0, .inr (4, [.ref b0, .int (nI l0.length), .int o0])), (b0, .inl (kI, n0, .inl f0))] := hD
            refine lv_if_eq (tgt := 23) hx hb d_Names_charsetOf_18 (by decide) (fun c_12 => ?_) (fun c_12 => ?_)
            · rw [if_pos c_12] at hF
              refine lv_iinc (v := 3) (lv' := [(3, .int 3), (0, .ref a0), (1, .int p1), (2, .int p2)]) hx hb d_Names_charsetOf_23 hl (k := 0) rfl (by decide) (by decide) rfl (fun ls hl => ?_)
              refine lv_goto (tgt := 2) hx hb d_Names_charsetOf_26 (by decide) ?_
              refine lv_iload_n hx hb d_Names_charsetOf_2 rfl (lv_at hl 0 rfl) ?_
              refine lv_bipush (v := 9) hx hb d_Names_charsetOf_3 (by decide) ?_
              refine lv_icmp_gt (tgt := 29) hx hb d_Names_charsetOf_5 (by decide) (fun c_13 => ?_) (fun c_13 => ?_)
              · exact absurd c_13 (by decide)
              · refine lv_aload_n hx hb d_Names_charsetOf_8 rfl (lv_at hl 1 rfl) ?_
                refine lv_iload_n hx hb d_Names_charsetOf_9 rfl (lv_at hl 2 rfl) ?_
                refine lv_iload_n hx hb d_Names_charsetOf_10 rfl (lv_at hl 3 rfl) ?_
                refine lv_iload_n hx hb d_Names_charsetOf_11 rfl (lv_at hl 0 rfl) ?_
                refine g_Sr (As := [.int 3]) (rest := [.int p2, .int p1, .ref a0]) (wr := [(a0, .inr (4, [.ref b0, .int (nI l0.length), .int o0])), (b0, .inl (kI, n0, .inl f0))]) ⟨hx, hb, hml, hown, hts⟩ (c_Names_namesOf l D Z kI H.size 3) (cw_Names_namesOf hts k_292 ⟨Nat.le_of_ble_eq_true rfl, Nat.le_of_ble_eq_true rfl⟩) hK hZ hP hD hS hA [] [0, 1] rfl rfl (by decide) (by decide) (by decide) rfl hl.1 rfl (Nat.le_of_ble_eq_true rfl) d_Names_charsetOf_12 ⟨Nat.zero_le _, Nat.zero_le _⟩ (fun r_14  H locs hw hP hD hS => ?_)
                have e_14 := hw.1
                have hq0_14 := hw.2
                subst e_14
                have hP : va_P D vwCl [(a0, .inr (4, [.ref b0, .int (nI l0.length), .int o0])), (b0, .inl (kI, n0, .inl f0))] H := hP
                have hD : va_D A [(a0, .inr (4, [.ref b0, .int (nI l0.length), .int o0])), (b0, .inl (kI, n0, .inl f0))] := hD
                refine g_Si (As := [.ref a0, .int p1, .int p2, .ref (Z.1 (m_Names_namesOf 3))]) (rest := []) (wr := []) ⟨hx, hb, hml, hown, hts⟩ (c_Names_isOneOf l D Z kI a0 b0 n0 H.size f0 l0 o0 p1 p2 (m_Names_namesOf 3) hr0 hq0_14) (cw_Names_isOneOf hts k_306 ⟨Nat.le_of_ble_eq_true rfl, Nat.le_of_ble_eq_true rfl⟩) hK hZ hP hD hS hA [0, 1] [] rfl rfl (by decide) (by decide) (by decide) rfl hl.1 rfl (Nat.le_of_ble_eq_true rfl) d_Names_charsetOf_15 ⟨Nat.zero_le _, Nat.zero_le _⟩ (fun r_15 u_15 H locs hw hP hD hS => ?_)
                have e_15 := hw
                subst e_15
                have hP : va_P D vwCl [(a0, .inr (4, [.ref b0, .int (nI l0.length), .int o0])), (b0, .inl (kI, n0, .inl f0))] H := hP
                have hD : va_D A [(a0, .inr (4, [.ref b0, .int (nI l0.length), .int o0])), (b0, .inl (kI, n0, .inl f0))] := hD
                refine lv_if_eq (tgt := 23) hx hb d_Names_charsetOf_18 (by decide) (fun c_16 => ?_) (fun c_16 => ?_)
                · rw [if_pos c_16] at hF
                  refine lv_iinc (v := 4) (lv' := [(3, .int 4), (0, .ref a0), (1, .int p1), (2, .int p2)]) hx hb d_Names_charsetOf_23 hl (k := 0) rfl (by decide) (by decide) rfl (fun ls hl => ?_)
                  refine lv_goto (tgt := 2) hx hb d_Names_charsetOf_26 (by decide) ?_
                  refine lv_iload_n hx hb d_Names_charsetOf_2 rfl (lv_at hl 0 rfl) ?_
                  refine lv_bipush (v := 9) hx hb d_Names_charsetOf_3 (by decide) ?_
                  refine lv_icmp_gt (tgt := 29) hx hb d_Names_charsetOf_5 (by decide) (fun c_17 => ?_) (fun c_17 => ?_)
                  · exact absurd c_17 (by decide)
                  · refine lv_aload_n hx hb d_Names_charsetOf_8 rfl (lv_at hl 1 rfl) ?_
                    refine lv_iload_n hx hb d_Names_charsetOf_9 rfl (lv_at hl 2 rfl) ?_
                    refine lv_iload_n hx hb d_Names_charsetOf_10 rfl (lv_at hl 3 rfl) ?_
                    refine lv_iload_n hx hb d_Names_charsetOf_11 rfl (lv_at hl 0 rfl) ?_
                    refine g_Sr (As := [.int 4]) (rest := [.int p2, .int p1, .ref a0]) (wr := [(a0, .inr (4, [.ref b0, .int (nI l0.length), .int o0])), (b0, .inl (kI, n0, .inl f0))]) ⟨hx, hb, hml, hown, hts⟩ (c_Names_namesOf l D Z kI H.size 4) (cw_Names_namesOf hts k_292 ⟨Nat.le_of_ble_eq_true rfl, Nat.le_of_ble_eq_true rfl⟩) hK hZ hP hD hS hA [] [0, 1] rfl rfl (by decide) (by decide) (by decide) rfl hl.1 rfl (Nat.le_of_ble_eq_true rfl) d_Names_charsetOf_12 ⟨Nat.zero_le _, Nat.zero_le _⟩ (fun r_18  H locs hw hP hD hS => ?_)
                    have e_18 := hw.1
                    have hq0_18 := hw.2
                    subst e_18
                    have hP : va_P D vwCl [(a0, .inr (4, [.ref b0, .int (nI l0.length), .int o0])), (b0, .inl (kI, n0, .inl f0))] H := hP
                    have hD : va_D A [(a0, .inr (4, [.ref b0, .int (nI l0.length), .int o0])), (b0, .inl (kI, n0, .inl f0))] := hD
                    refine g_Si (As := [.ref a0, .int p1, .int p2, .ref (Z.1 (m_Names_namesOf 4))]) (rest := []) (wr := []) ⟨hx, hb, hml, hown, hts⟩ (c_Names_isOneOf l D Z kI a0 b0 n0 H.size f0 l0 o0 p1 p2 (m_Names_namesOf 4) hr0 hq0_18) (cw_Names_isOneOf hts k_306 ⟨Nat.le_of_ble_eq_true rfl, Nat.le_of_ble_eq_true rfl⟩) hK hZ hP hD hS hA [0, 1] [] rfl rfl (by decide) (by decide) (by decide) rfl hl.1 rfl (Nat.le_of_ble_eq_true rfl) d_Names_charsetOf_15 ⟨Nat.zero_le _, Nat.zero_le _⟩ (fun r_19 u_19 H locs hw hP hD hS => ?_)
                    have e_19 := hw
                    subst e_19
                    have hP : va_P D vwCl [(a0, .inr (4, [.ref b0, .int (nI l0.length), .int o0])), (b0, .inl (kI, n0, .inl f0))] H := hP
                    have hD : va_D A [(a0, .inr (4, [.ref b0, .int (nI l0.length), .int o0])), (b0, .inl (kI, n0, .inl f0))] := hD
                    refine lv_if_eq (tgt := 23) hx hb d_Names_charsetOf_18 (by decide) (fun c_20 => ?_) (fun c_20 => ?_)
                    · rw [if_pos c_20] at hF
                      refine lv_iinc (v := 5) (lv' := [(3, .int 5), (0, .ref a0), (1, .int p1), (2, .int p2)]) hx hb d_Names_charsetOf_23 hl (k := 0) rfl (by decide) (by decide) rfl (fun ls hl => ?_)
                      refine lv_goto (tgt := 2) hx hb d_Names_charsetOf_26 (by decide) ?_
                      refine lv_iload_n hx hb d_Names_charsetOf_2 rfl (lv_at hl 0 rfl) ?_
                      refine lv_bipush (v := 9) hx hb d_Names_charsetOf_3 (by decide) ?_
                      refine lv_icmp_gt (tgt := 29) hx hb d_Names_charsetOf_5 (by decide) (fun c_21 => ?_) (fun c_21 => ?_)
                      · exact absurd c_21 (by decide)
                      · refine lv_aload_n hx hb d_Names_charsetOf_8 rfl (lv_at hl 1 rfl) ?_
                        refine lv_iload_n hx hb d_Names_charsetOf_9 rfl (lv_at hl 2 rfl) ?_
                        refine lv_iload_n hx hb d_Names_charsetOf_10 rfl (lv_at hl 3 rfl) ?_
                        refine lv_iload_n hx hb d_Names_charsetOf_11 rfl (lv_at hl 0 rfl) ?_
                        refine g_Sr (As := [.int 5]) (rest := [.int p2, .int p1, .ref a0]) (wr := [(a0, .inr (4, [.ref b0, .int (nI l0.length), .int o0])), (b0, .inl (kI, n0, .inl f0))]) ⟨hx, hb, hml, hown, hts⟩ (c_Names_namesOf l D Z kI H.size 5) (cw_Names_namesOf hts k_292 ⟨Nat.le_of_ble_eq_true rfl, Nat.le_of_ble_eq_true rfl⟩) hK hZ hP hD hS hA [] [0, 1] rfl rfl (by decide) (by decide) (by decide) rfl hl.1 rfl (Nat.le_of_ble_eq_true rfl) d_Names_charsetOf_12 ⟨Nat.zero_le _, Nat.zero_le _⟩ (fun r_22  H locs hw hP hD hS => ?_)
                        have e_22 := hw.1
                        have hq0_22 := hw.2
                        subst e_22
                        have hP : va_P D vwCl [(a0, .inr (4, [.ref b0, .int (nI l0.length), .int o0])), (b0, .inl (kI, n0, .inl f0))] H := hP
                        have hD : va_D A [(a0, .inr (4, [.ref b0, .int (nI l0.length), .int o0])), (b0, .inl (kI, n0, .inl f0))] := hD
                        refine g_Si (As := [.ref a0, .int p1, .int p2, .ref (Z.1 (m_Names_namesOf 5))]) (rest := []) (wr := []) ⟨hx, hb, hml, hown, hts⟩ (c_Names_isOneOf l D Z kI a0 b0 n0 H.size f0 l0 o0 p1 p2 (m_Names_namesOf 5) hr0 hq0_22) (cw_Names_isOneOf hts k_306 ⟨Nat.le_of_ble_eq_true rfl, Nat.le_of_ble_eq_true rfl⟩) hK hZ hP hD hS hA [0, 1] [] rfl rfl (by decide) (by decide) (by decide) rfl hl.1 rfl (Nat.le_of_ble_eq_true rfl) d_Names_charsetOf_15 ⟨Nat.zero_le _, Nat.zero_le _⟩ (fun r_23 u_23 H locs hw hP hD hS => ?_)
                        have e_23 := hw
                        subst e_23
                        have hP : va_P D vwCl [(a0, .inr (4, [.ref b0, .int (nI l0.length), .int o0])), (b0, .inl (kI, n0, .inl f0))] H := hP
                        have hD : va_D A [(a0, .inr (4, [.ref b0, .int (nI l0.length), .int o0])), (b0, .inl (kI, n0, .inl f0))] := hD
                        refine lv_if_eq (tgt := 23) hx hb d_Names_charsetOf_18 (by decide) (fun c_24 => ?_) (fun c_24 => ?_)
                        · rw [if_pos c_24] at hF
                          refine lv_iinc (v := 6) (lv' := [(3, .int 6), (0, .ref a0), (1, .int p1), (2, .int p2)]) hx hb d_Names_charsetOf_23 hl (k := 0) rfl (by decide) (by decide) rfl (fun ls hl => ?_)
                          refine lv_goto (tgt := 2) hx hb d_Names_charsetOf_26 (by decide) ?_
                          refine lv_iload_n hx hb d_Names_charsetOf_2 rfl (lv_at hl 0 rfl) ?_
                          refine lv_bipush (v := 9) hx hb d_Names_charsetOf_3 (by decide) ?_
                          refine lv_icmp_gt (tgt := 29) hx hb d_Names_charsetOf_5 (by decide) (fun c_25 => ?_) (fun c_25 => ?_)
                          · exact absurd c_25 (by decide)
                          · refine lv_aload_n hx hb d_Names_charsetOf_8 rfl (lv_at hl 1 rfl) ?_
                            refine lv_iload_n hx hb d_Names_charsetOf_9 rfl (lv_at hl 2 rfl) ?_
                            refine lv_iload_n hx hb d_Names_charsetOf_10 rfl (lv_at hl 3 rfl) ?_
                            refine lv_iload_n hx hb d_Names_charsetOf_11 rfl (lv_at hl 0 rfl) ?_
                            refine g_Sr (As := [.int 6]) (rest := [.int p2, .int p1, .ref a0]) (wr := [(a0, .inr (4, [.ref b0, .int (nI l0.length), .int o0])), (b0, .inl (kI, n0, .inl f0))]) ⟨hx, hb, hml, hown, hts⟩ (c_Names_namesOf l D Z kI H.size 6) (cw_Names_namesOf hts k_292 ⟨Nat.le_of_ble_eq_true rfl, Nat.le_of_ble_eq_true rfl⟩) hK hZ hP hD hS hA [] [0, 1] rfl rfl (by decide) (by decide) (by decide) rfl hl.1 rfl (Nat.le_of_ble_eq_true rfl) d_Names_charsetOf_12 ⟨Nat.zero_le _, Nat.zero_le _⟩ (fun r_26  H locs hw hP hD hS => ?_)
                            have e_26 := hw.1
                            have hq0_26 := hw.2
                            subst e_26
                            have hP : va_P D vwCl [(a0, .inr (4, [.ref b0, .int (nI l0.length), .int o0])), (b0, .inl (kI, n0, .inl f0))] H := hP
                            have hD : va_D A [(a0, .inr (4, [.ref b0, .int (nI l0.length), .int o0])), (b0, .inl (kI, n0, .inl f0))] := hD
                            refine g_Si (As := [.ref a0, .int p1, .int p2, .ref (Z.1 (m_Names_namesOf 6))]) (rest := []) (wr := []) ⟨hx, hb, hml, hown, hts⟩ (c_Names_isOneOf l D Z kI a0 b0 n0 H.size f0 l0 o0 p1 p2 (m_Names_namesOf 6) hr0 hq0_26) (cw_Names_isOneOf hts k_306 ⟨Nat.le_of_ble_eq_true rfl, Nat.le_of_ble_eq_true rfl⟩) hK hZ hP hD hS hA [0, 1] [] rfl rfl (by decide) (by decide) (by decide) rfl hl.1 rfl (Nat.le_of_ble_eq_true rfl) d_Names_charsetOf_15 ⟨Nat.zero_le _, Nat.zero_le _⟩ (fun r_27 u_27 H locs hw hP hD hS => ?_)
                            have e_27 := hw
                            subst e_27
                            have hP : va_P D vwCl [(a0, .inr (4, [.ref b0, .int (nI l0.length), .int o0])), (b0, .inl (kI, n0, .inl f0))] H := hP
                            have hD : va_D A [(a0, .inr (4, [.ref b0, .int (nI l0.length), .int o0])), (b0, .inl (kI, n0, .inl f0))] := hD
                            refine lv_if_eq (tgt := 23) hx hb d_Names_charsetOf_18 (by decide) (fun c_28 => ?_) (fun c_28 => ?_)
                            · rw [if_pos c_28] at hF
                              refine lv_iinc (v := 7) (lv' := [(3, .int 7), (0, .ref a0), (1, .int p1), (2, .int p2)]) hx hb d_Names_charsetOf_23 hl (k := 0) rfl (by decide) (by decide) rfl (fun ls hl => ?_)
                              refine lv_goto (tgt := 2) hx hb d_Names_charsetOf_26 (by decide) ?_
                              refine lv_iload_n hx hb d_Names_charsetOf_2 rfl (lv_at hl 0 rfl) ?_
                              refine lv_bipush (v := 9) hx hb d_Names_charsetOf_3 (by decide) ?_
                              refine lv_icmp_gt (tgt := 29) hx hb d_Names_charsetOf_5 (by decide) (fun c_29 => ?_) (fun c_29 => ?_)
                              · exact absurd c_29 (by decide)
                              · refine lv_aload_n hx hb d_Names_charsetOf_8 rfl (lv_at hl 1 rfl) ?_
                                refine lv_iload_n hx hb d_Names_charsetOf_9 rfl (lv_at hl 2 rfl) ?_
                                refine lv_iload_n hx hb d_Names_charsetOf_10 rfl (lv_at hl 3 rfl) ?_
                                refine lv_iload_n hx hb d_Names_charsetOf_11 rfl (lv_at hl 0 rfl) ?_
                                refine g_Sr (As := [.int 7]) (rest := [.int p2, .int p1, .ref a0]) (wr := [(a0, .inr (4, [.ref b0, .int (nI l0.length), .int o0])), (b0, .inl (kI, n0, .inl f0))]) ⟨hx, hb, hml, hown, hts⟩ (c_Names_namesOf l D Z kI H.size 7) (cw_Names_namesOf hts k_292 ⟨Nat.le_of_ble_eq_true rfl, Nat.le_of_ble_eq_true rfl⟩) hK hZ hP hD hS hA [] [0, 1] rfl rfl (by decide) (by decide) (by decide) rfl hl.1 rfl (Nat.le_of_ble_eq_true rfl) d_Names_charsetOf_12 ⟨Nat.zero_le _, Nat.zero_le _⟩ (fun r_30  H locs hw hP hD hS => ?_)
                                have e_30 := hw.1
                                have hq0_30 := hw.2
                                subst e_30
                                have hP : va_P D vwCl [(a0, .inr (4, [.ref b0, .int (nI l0.length), .int o0])), (b0, .inl (kI, n0, .inl f0))] H := hP
                                have hD : va_D A [(a0, .inr (4, [.ref b0, .int (nI l0.length), .int o0])), (b0, .inl (kI, n0, .inl f0))] := hD
                                refine g_Si (As := [.ref a0, .int p1, .int p2, .ref (Z.1 (m_Names_namesOf 7))]) (rest := []) (wr := []) ⟨hx, hb, hml, hown, hts⟩ (c_Names_isOneOf l D Z kI a0 b0 n0 H.size f0 l0 o0 p1 p2 (m_Names_namesOf 7) hr0 hq0_30) (cw_Names_isOneOf hts k_306 ⟨Nat.le_of_ble_eq_true rfl, Nat.le_of_ble_eq_true rfl⟩) hK hZ hP hD hS hA [0, 1] [] rfl rfl (by decide) (by decide) (by decide) rfl hl.1 rfl (Nat.le_of_ble_eq_true rfl) d_Names_charsetOf_15 ⟨Nat.zero_le _, Nat.zero_le _⟩ (fun r_31 u_31 H locs hw hP hD hS => ?_)
                                have e_31 := hw
                                subst e_31
                                have hP : va_P D vwCl [(a0, .inr (4, [.ref b0, .int (nI l0.length), .int o0])), (b0, .inl (kI, n0, .inl f0))] H := hP
                                have hD : va_D A [(a0, .inr (4, [.ref b0, .int (nI l0.length), .int o0])), (b0, .inl (kI, n0, .inl f0))] := hD
                                refine lv_if_eq (tgt := 23) hx hb d_Names_charsetOf_18 (by decide) (fun c_32 => ?_) (fun c_32 => ?_)
                                · rw [if_pos c_32] at hF
                                  refine lv_iinc (v := 8) (lv' := [(3, .int 8), (0, .ref a0), (1, .int p1), (2, .int p2)]) hx hb d_Names_charsetOf_23 hl (k := 0) rfl (by decide) (by decide) rfl (fun ls hl => ?_)
                                  refine lv_goto (tgt := 2) hx hb d_Names_charsetOf_26 (by decide) ?_
                                  refine lv_iload_n hx hb d_Names_charsetOf_2 rfl (lv_at hl 0 rfl) ?_
                                  refine lv_bipush (v := 9) hx hb d_Names_charsetOf_3 (by decide) ?_
                                  refine lv_icmp_gt (tgt := 29) hx hb d_Names_charsetOf_5 (by decide) (fun c_33 => ?_) (fun c_33 => ?_)
                                  · exact absurd c_33 (by decide)
                                  · refine lv_aload_n hx hb d_Names_charsetOf_8 rfl (lv_at hl 1 rfl) ?_
                                    refine lv_iload_n hx hb d_Names_charsetOf_9 rfl (lv_at hl 2 rfl) ?_
                                    refine lv_iload_n hx hb d_Names_charsetOf_10 rfl (lv_at hl 3 rfl) ?_
                                    refine lv_iload_n hx hb d_Names_charsetOf_11 rfl (lv_at hl 0 rfl) ?_
                                    refine g_Sr (As := [.int 8]) (rest := [.int p2, .int p1, .ref a0]) (wr := [(a0, .inr (4, [.ref b0, .int (nI l0.length), .int o0])), (b0, .inl (kI, n0, .inl f0))]) ⟨hx, hb, hml, hown, hts⟩ (c_Names_namesOf l D Z kI H.size 8) (cw_Names_namesOf hts k_292 ⟨Nat.le_of_ble_eq_true rfl, Nat.le_of_ble_eq_true rfl⟩) hK hZ hP hD hS hA [] [0, 1] rfl rfl (by decide) (by decide) (by decide) rfl hl.1 rfl (Nat.le_of_ble_eq_true rfl) d_Names_charsetOf_12 ⟨Nat.zero_le _, Nat.zero_le _⟩ (fun r_34  H locs hw hP hD hS => ?_)
                                    have e_34 := hw.1
                                    have hq0_34 := hw.2
                                    subst e_34
                                    have hP : va_P D vwCl [(a0, .inr (4, [.ref b0, .int (nI l0.length), .int o0])), (b0, .inl (kI, n0, .inl f0))] H := hP
                                    have hD : va_D A [(a0, .inr (4, [.ref b0, .int (nI l0.length), .int o0])), (b0, .inl (kI, n0, .inl f0))] := hD
                                    refine g_Si (As := [.ref a0, .int p1, .int p2, .ref (Z.1 (m_Names_namesOf 8))]) (rest := []) (wr := []) ⟨hx, hb, hml, hown, hts⟩ (c_Names_isOneOf l D Z kI a0 b0 n0 H.size f0 l0 o0 p1 p2 (m_Names_namesOf 8) hr0 hq0_34) (cw_Names_isOneOf hts k_306 ⟨Nat.le_of_ble_eq_true rfl, Nat.le_of_ble_eq_true rfl⟩) hK hZ hP hD hS hA [0, 1] [] rfl rfl (by decide) (by decide) (by decide) rfl hl.1 rfl (Nat.le_of_ble_eq_true rfl) d_Names_charsetOf_15 ⟨Nat.zero_le _, Nat.zero_le _⟩ (fun r_35 u_35 H locs hw hP hD hS => ?_)
                                    have e_35 := hw
                                    subst e_35
                                    have hP : va_P D vwCl [(a0, .inr (4, [.ref b0, .int (nI l0.length), .int o0])), (b0, .inl (kI, n0, .inl f0))] H := hP
                                    have hD : va_D A [(a0, .inr (4, [.ref b0, .int (nI l0.length), .int o0])), (b0, .inl (kI, n0, .inl f0))] := hD
                                    refine lv_if_eq (tgt := 23) hx hb d_Names_charsetOf_18 (by decide) (fun c_36 => ?_) (fun c_36 => ?_)
                                    · rw [if_pos c_36] at hF
                                      refine lv_iinc (v := 9) (lv' := [(3, .int 9), (0, .ref a0), (1, .int p1), (2, .int p2)]) hx hb d_Names_charsetOf_23 hl (k := 0) rfl (by decide) (by decide) rfl (fun ls hl => ?_)
                                      refine lv_goto (tgt := 2) hx hb d_Names_charsetOf_26 (by decide) ?_
                                      refine lv_iload_n hx hb d_Names_charsetOf_2 rfl (lv_at hl 0 rfl) ?_
                                      refine lv_bipush (v := 9) hx hb d_Names_charsetOf_3 (by decide) ?_
                                      refine lv_icmp_gt (tgt := 29) hx hb d_Names_charsetOf_5 (by decide) (fun c_37 => ?_) (fun c_37 => ?_)
                                      · exact absurd c_37 (by decide)
                                      · refine lv_aload_n hx hb d_Names_charsetOf_8 rfl (lv_at hl 1 rfl) ?_
                                        refine lv_iload_n hx hb d_Names_charsetOf_9 rfl (lv_at hl 2 rfl) ?_
                                        refine lv_iload_n hx hb d_Names_charsetOf_10 rfl (lv_at hl 3 rfl) ?_
                                        refine lv_iload_n hx hb d_Names_charsetOf_11 rfl (lv_at hl 0 rfl) ?_
                                        refine g_Sr (As := [.int 9]) (rest := [.int p2, .int p1, .ref a0]) (wr := [(a0, .inr (4, [.ref b0, .int (nI l0.length), .int o0])), (b0, .inl (kI, n0, .inl f0))]) ⟨hx, hb, hml, hown, hts⟩ (c_Names_namesOf l D Z kI H.size 9) (cw_Names_namesOf hts k_292 ⟨Nat.le_of_ble_eq_true rfl, Nat.le_of_ble_eq_true rfl⟩) hK hZ hP hD hS hA [] [0, 1] rfl rfl (by decide) (by decide) (by decide) rfl hl.1 rfl (Nat.le_of_ble_eq_true rfl) d_Names_charsetOf_12 ⟨Nat.zero_le _, Nat.zero_le _⟩ (fun r_38  H locs hw hP hD hS => ?_)
                                        have e_38 := hw.1
                                        have hq0_38 := hw.2
                                        subst e_38
                                        have hP : va_P D vwCl [(a0, .inr (4, [.ref b0, .int (nI l0.length), .int o0])), (b0, .inl (kI, n0, .inl f0))] H := hP
                                        have hD : va_D A [(a0, .inr (4, [.ref b0, .int (nI l0.length), .int o0])), (b0, .inl (kI, n0, .inl f0))] := hD
                                        refine g_Si (As := [.ref a0, .int p1, .int p2, .ref (Z.1 (m_Names_namesOf 9))]) (rest := []) (wr := []) ⟨hx, hb, hml, hown, hts⟩ (c_Names_isOneOf l D Z kI a0 b0 n0 H.size f0 l0 o0 p1 p2 (m_Names_namesOf 9) hr0 hq0_38) (cw_Names_isOneOf hts k_306 ⟨Nat.le_of_ble_eq_true rfl, Nat.le_of_ble_eq_true rfl⟩) hK hZ hP hD hS hA [0, 1] [] rfl rfl (by decide) (by decide) (by decide) rfl hl.1 rfl (Nat.le_of_ble_eq_true rfl) d_Names_charsetOf_15 ⟨Nat.zero_le _, Nat.zero_le _⟩ (fun r_39 u_39 H locs hw hP hD hS => ?_)
                                        have e_39 := hw
                                        subst e_39
                                        have hP : va_P D vwCl [(a0, .inr (4, [.ref b0, .int (nI l0.length), .int o0])), (b0, .inl (kI, n0, .inl f0))] H := hP
                                        have hD : va_D A [(a0, .inr (4, [.ref b0, .int (nI l0.length), .int o0])), (b0, .inl (kI, n0, .inl f0))] := hD
                                        refine lv_if_eq (tgt := 23) hx hb d_Names_charsetOf_18 (by decide) (fun c_40 => ?_) (fun c_40 => ?_)
                                        · rw [if_pos c_40] at hF
                                          refine lv_iinc (v := 10) (lv' := [(3, .int 10), (0, .ref a0), (1, .int p1), (2, .int p2)]) hx hb d_Names_charsetOf_23 hl (k := 0) rfl (by decide) (by decide) rfl (fun ls hl => ?_)
                                          refine lv_goto (tgt := 2) hx hb d_Names_charsetOf_26 (by decide) ?_
                                          refine lv_iload_n hx hb d_Names_charsetOf_2 rfl (lv_at hl 0 rfl) ?_
                                          refine lv_bipush (v := 9) hx hb d_Names_charsetOf_3 (by decide) ?_
                                          refine lv_icmp_gt (tgt := 29) hx hb d_Names_charsetOf_5 (by decide) (fun c_41 => ?_) (fun c_41 => ?_)
                                          · refine lv_iconst (v := (-1)) hx hb d_Names_charsetOf_29 (by decide) ?_
                                            exact hret (-1) () _ _ _ _ d_Names_charsetOf_30 rfl (hRES.symm.trans hF) hP hD hS
                                          · exact absurd c_41 (by decide)
                                        · rw [if_neg c_40] at hF
                                          refine lv_iload_n hx hb d_Names_charsetOf_21 rfl (lv_at hl 0 rfl) ?_
                                          exact hret 9 () _ _ _ _ d_Names_charsetOf_22 rfl (hRES.symm.trans hF) hP hD hS
                                    · rw [if_neg c_36] at hF
                                      refine lv_iload_n hx hb d_Names_charsetOf_21 rfl (lv_at hl 0 rfl) ?_
                                      exact hret 8 () _ _ _ _ d_Names_charsetOf_22 rfl (hRES.symm.trans hF) hP hD hS
                                · rw [if_neg c_32] at hF
                                  refine lv_iload_n hx hb d_Names_charsetOf_21 rfl (lv_at hl 0 rfl) ?_
                                  exact hret 7 () _ _ _ _ d_Names_charsetOf_22 rfl (hRES.symm.trans hF) hP hD hS
                            · rw [if_neg c_28] at hF
                              refine lv_iload_n hx hb d_Names_charsetOf_21 rfl (lv_at hl 0 rfl) ?_
                              exact hret 6 () _ _ _ _ d_Names_charsetOf_22 rfl (hRES.symm.trans hF) hP hD hS
                        · rw [if_neg c_24] at hF
                          refine lv_iload_n hx hb d_Names_charsetOf_21 rfl (lv_at hl 0 rfl) ?_
                          exact hret 5 () _ _ _ _ d_Names_charsetOf_22 rfl (hRES.symm.trans hF) hP hD hS
                    · rw [if_neg c_20] at hF
                      refine lv_iload_n hx hb d_Names_charsetOf_21 rfl (lv_at hl 0 rfl) ?_
                      exact hret 4 () _ _ _ _ d_Names_charsetOf_22 rfl (hRES.symm.trans hF) hP hD hS
                · rw [if_neg c_16] at hF
                  refine lv_iload_n hx hb d_Names_charsetOf_21 rfl (lv_at hl 0 rfl) ?_
                  exact hret 3 () _ _ _ _ d_Names_charsetOf_22 rfl (hRES.symm.trans hF) hP hD hS
            · rw [if_neg c_12] at hF
              refine lv_iload_n hx hb d_Names_charsetOf_21 rfl (lv_at hl 0 rfl) ?_
              exact hret 2 () _ _ _ _ d_Names_charsetOf_22 rfl (hRES.symm.trans hF) hP hD hS
        · rw [if_neg c_8] at hF
          refine lv_iload_n hx hb d_Names_charsetOf_21 rfl (lv_at hl 0 rfl) ?_
          exact hret 1 () _ _ _ _ d_Names_charsetOf_22 rfl (hRES.symm.trans hF) hP hD hS
    · rw [if_neg c_4] at hF
      refine lv_iload_n hx hb d_Names_charsetOf_21 rfl (lv_at hl 0 rfl) ?_
      exact hret 0 () _ _ _ _ d_Names_charsetOf_22 rfl (hRES.symm.trans hF) hP hD hS
theorem cw_Names_charsetOf {R : Room} {s : State} {args : Array Value} {own : String} {idx : Nat} (hts : ∀ w ∈ gW, w.before args s = true) (hl : Cond.methodLink own idx y_Names_charsetOf ∈ gW) (hR : rm_Names_charsetOf.frames + 1 ≤ R.frames ∧ 8 + (4 + 11) + rm_Names_charsetOf.locals ≤ R.locals) : CallB R s args own idx y_Names_charsetOf b_Names_charsetOf 4 (some .int) w_Names_charsetOf rm_Names_charsetOf 0 0 3 ∧ (Cond.static y_Names_charsetOf).before args s = true := va_cwS 3 hts (gW_S hl k_290 k_78 k_291) rfl rfl rfl (by decide +kernel) hR
def m_Word_standsAt (l0 : List Int32) (v1_charset : Int32) (v1_based : Int32) (v1_from : Int32) (v1_to : Int32) (v1_next : Int32) (p2 : Int32) : Int32 × Int32 × Int32 × Int32 × Int32 × Int32 :=
  if (m_Row_get l0 p2) = 61 then
    if (m_Row_get l0 (p2 + 1)) = 63 then
      match (m_Word_takesKind (m_Row_get l0 ((m_Word_endOfName l0 (p2 + 2)) + 1))) with
      | (r_7, v0_based_7) =>
        if r_7 = 0 then
          (0, v1_charset, v0_based_7, v1_from, v1_to, v1_next)
        else
          if (m_Row_get l0 ((m_Word_endOfName l0 (p2 + 2)) + 2)) = 63 then
            if (m_Row_get l0 (m_Word_endOfBytes l0 ((m_Word_endOfName l0 (p2 + 2)) + 3))) = 63 then
              if (m_Row_get l0 ((m_Word_endOfBytes l0 ((m_Word_endOfName l0 (p2 + 2)) + 3)) + 1)) = 61 then
                if (m_Names_charsetOf l0 (p2 + 2) (m_Word_starOrEnd l0 (p2 + 2) (m_Word_endOfName l0 (p2 + 2)))) = (-1) then
                  (0, (m_Names_charsetOf l0 (p2 + 2) (m_Word_starOrEnd l0 (p2 + 2) (m_Word_endOfName l0 (p2 + 2)))), v0_based_7, ((m_Word_endOfName l0 (p2 + 2)) + 3), (m_Word_endOfBytes l0 ((m_Word_endOfName l0 (p2 + 2)) + 3)), ((m_Word_endOfBytes l0 ((m_Word_endOfName l0 (p2 + 2)) + 3)) + 2))
                else
                  (1, (m_Names_charsetOf l0 (p2 + 2) (m_Word_starOrEnd l0 (p2 + 2) (m_Word_endOfName l0 (p2 + 2)))), v0_based_7, ((m_Word_endOfName l0 (p2 + 2)) + 3), (m_Word_endOfBytes l0 ((m_Word_endOfName l0 (p2 + 2)) + 3)), ((m_Word_endOfBytes l0 ((m_Word_endOfName l0 (p2 + 2)) + 3)) + 2))
              else
                (0, v1_charset, v0_based_7, ((m_Word_endOfName l0 (p2 + 2)) + 3), (m_Word_endOfBytes l0 ((m_Word_endOfName l0 (p2 + 2)) + 3)), ((m_Word_endOfBytes l0 ((m_Word_endOfName l0 (p2 + 2)) + 3)) + 2))
            else
              (0, v1_charset, v0_based_7, ((m_Word_endOfName l0 (p2 + 2)) + 3), (m_Word_endOfBytes l0 ((m_Word_endOfName l0 (p2 + 2)) + 3)), ((m_Word_endOfBytes l0 ((m_Word_endOfName l0 (p2 + 2)) + 3)) + 2))
          else
            (0, v1_charset, v0_based_7, v1_from, v1_to, v1_next)
    else
      (0, v1_charset, v1_based, v1_from, v1_to, v1_next)
  else
    (0, v1_charset, v1_based, v1_from, v1_to, v1_next)
def rm_Word_standsAt : Room := { frames := 7, cells := 0, slots := 0, locals := 158 }
set_option maxHeartbeats 4000000 in
set_option maxRecDepth 100000 in
theorem c_Word_standsAt (l : Launch) (D : va_G) (Z : gZT) (kI : ClassId) (a0 : Nat) (b0 : Nat) (n0 : Nat) (a1 : Nat) (sz : Nat) (f0 : Nat → Int32) (l0 : List Int32) (o0 : Int32) (v1_charset : Int32) (v1_based : Int32) (v1_from : Int32) (v1_to : Int32) (v1_next : Int32) (p2 : Int32) (hr0 : g_rw n0 f0 l0) : gMi l y_Word_standsAt w_Word_standsAt rm_Word_standsAt D Z kI [.ref a1, .ref a0, .int p2] sz [(a0, .inr (4, [.ref b0, .int (nI l0.length), .int o0])), (b0, .inl (kI, n0, .inl f0)), (a1, .inr (6, [.int v1_charset, .int v1_based, .int v1_from, .int v1_to, .int v1_next]))] (fun (r : Int32) (u : Int32 × Int32 × Int32 × Int32 × Int32) => m_Word_standsAt l0 v1_charset v1_based v1_from v1_to v1_next p2 = (r, u.1, u.2.1, u.2.2.1, u.2.2.2.1, u.2.2.2.2)) (fun (u : Int32 × Int32 × Int32 × Int32 × Int32) => ([(a0, .inr (4, [.ref b0, .int (nI l0.length), .int o0])), (b0, .inl (kI, n0, .inl f0)), (a1, .inr (6, [.int u.1, .int u.2.1, .int u.2.2.1, .int u.2.2.2.1, .int u.2.2.2.2]))] : va_W)) := by
  refine g_ofi (cc := b_Word_standsAt) (maxL := 4) (ty := .boolean) (by decide) rfl (Nat.le_of_ble_eq_true rfl) ?_
  intro p e s m below meth c A Q H ls hx hb hml hown hts hA hK hZ hP hD hS hl hret
  have hown : s.vm.findClass "MailCharacters$Word" = some m.cls := hown
  have hl : lv_has ls 4 [(0, .ref a1), (1, .ref a0), (2, .int p2)] := hl
  obtain ⟨RES, hRES⟩ : ∃ z, z = m_Word_standsAt l0 v1_charset v1_based v1_from v1_to v1_next p2 := ⟨_, rfl⟩
  have hF := hRES
  rw [m_Word_standsAt] at hF
  refine lv_aload_n hx hb d_Word_standsAt_0 rfl (lv_at hl 1 rfl) ?_
  refine lv_iload_n hx hb d_Word_standsAt_1 rfl (lv_at hl 2 rfl) ?_
  refine g_Vi (As := [.int p2]) (rest := []) (wr := [(a1, .inr (6, [.int v1_charset, .int v1_based, .int v1_from, .int v1_to, .int v1_next]))]) ⟨hx, hb, hml, hown, hts⟩ (c_Row_get l D Z kI a0 b0 n0 H.size f0 l0 o0 p2 hr0) (cw_Row_get hts k_380 ⟨Nat.le_of_ble_eq_true rfl, Nat.le_of_ble_eq_true rfl⟩) hK hZ hP hD hS hA [0, 1] [2] (g_recv hK hP (ci := 4) (q0 := 0) rfl rfl) rfl rfl (by decide) (by decide) (by decide) rfl hl.1 rfl (Nat.le_of_ble_eq_true rfl) d_Word_standsAt_2 ⟨Nat.zero_le _, Nat.zero_le _⟩ (fun r_1 u_1 H locs hw hP hD hS => ?_)
  have e_1 := hw
  subst e_1
  have hP : va_P D vwCl [(a1, .inr (6, [.int v1_charset, .int v1_based, .int v1_from, .int v1_to, .int v1_next])), (a0, .inr (4, [.ref b0, .int (nI l0.length), .int o0])), (b0, .inl (kI, n0, .inl f0))] H := hP
  have hD : va_D A [(a1, .inr (6, [.int v1_charset, .int v1_based, .int v1_from, .int v1_to, .int v1_next])), (a0, .inr (4, [.ref b0, .int (nI l0.length), .int o0])), (b0, .inl (kI, n0, .inl f0))] := hD
  refine lv_bipush (v := 61) hx hb d_Word_standsAt_5 (by decide) ?_
  refine lv_icmp_ne (tgt := 22) hx hb d_Word_standsAt_7 (by decide) (fun c_2 => ?_) (fun c_2 => ?_)
  · rw [if_neg c_2] at hF
    refine lv_iconst (v := 0) hx hb d_Word_standsAt_22 (by decide) ?_
    exact hret 0 (v1_charset, v1_based, v1_from, v1_to, v1_next) _ _ _ _ d_Word_standsAt_23 rfl (hRES.symm.trans hF) (hP.sub [1, 2, 0] rfl) (hD.sub [1, 2, 0] (by decide) rfl) hS
  · rw [if_pos c_2] at hF
    refine lv_aload_n hx hb d_Word_standsAt_10 rfl (lv_at hl 1 rfl) ?_
    refine lv_iload_n hx hb d_Word_standsAt_11 rfl (lv_at hl 2 rfl) ?_
    refine lv_iconst (v := 1) hx hb d_Word_standsAt_12 (by decide) ?_
    refine lv_iadd hx hb d_Word_standsAt_13 ?_
    refine g_Vi (As := [.int (p2 + 1)]) (rest := []) (wr := [(a1, .inr (6, [.int v1_charset, .int v1_based, .int v1_from, .int v1_to, .int v1_next]))]) ⟨hx, hb, hml, hown, hts⟩ (c_Row_get l D Z kI a0 b0 n0 H.size f0 l0 o0 (p2 + 1) hr0) (cw_Row_get hts k_380 ⟨Nat.le_of_ble_eq_true rfl, Nat.le_of_ble_eq_true rfl⟩) hK hZ hP hD hS hA [1, 2] [0] (g_recv hK hP (ci := 4) (q0 := 1) rfl rfl) rfl rfl (by decide) (by decide) (by decide) rfl hl.1 rfl (Nat.le_of_ble_eq_true rfl) d_Word_standsAt_14 ⟨Nat.zero_le _, Nat.zero_le _⟩ (fun r_3 u_3 H locs hw hP hD hS => ?_)
    have e_3 := hw
    subst e_3
    have hP : va_P D vwCl [(a1, .inr (6, [.int v1_charset, .int v1_based, .int v1_from, .int v1_to, .int v1_next])), (a0, .inr (4, [.ref b0, .int (nI l0.length), .int o0])), (b0, .inl (kI, n0, .inl f0))] H := hP
    have hD : va_D A [(a1, .inr (6, [.int v1_charset, .int v1_based, .int v1_from, .int v1_to, .int v1_next])), (a0, .inr (4, [.ref b0, .int (nI l0.length), .int o0])), (b0, .inl (kI, n0, .inl f0))] := hD
    refine lv_bipush (v := 63) hx hb d_Word_standsAt_17 (by decide) ?_
    refine lv_icmp_eq (tgt := 24) hx hb d_Word_standsAt_19 (by decide) (fun c_4 => ?_) (fun c_4 => ?_)
    · rw [if_pos c_4] at hF
      refine lv_aload_n hx hb d_Word_standsAt_24 rfl (lv_at hl 1 rfl) ?_
      refine lv_iload_n hx hb d_Word_standsAt_25 rfl (lv_at hl 2 rfl) ?_
      refine lv_iconst (v := 2) hx hb d_Word_standsAt_26 (by decide) ?_
      refine lv_iadd hx hb d_Word_standsAt_27 ?_
      refine g_Si (As := [.ref a0, .int (p2 + 2)]) (rest := []) (wr := [(a1, .inr (6, [.int v1_charset, .int v1_based, .int v1_from, .int v1_to, .int v1_next]))]) ⟨hx, hb, hml, hown, hts⟩ (c_Word_endOfName l D Z kI a0 b0 n0 H.size f0 l0 o0 (p2 + 2) hr0) (cw_Word_endOfName hts k_381 ⟨Nat.le_of_ble_eq_true rfl, Nat.le_of_ble_eq_true rfl⟩) hK hZ hP hD hS hA [1, 2] [0] rfl rfl (by decide) (by decide) (by decide) rfl hl.1 rfl (Nat.le_of_ble_eq_true rfl) d_Word_standsAt_28 ⟨Nat.zero_le _, Nat.zero_le _⟩ (fun r_5 u_5 H locs hw hP hD hS => ?_)
      have e_5 := hw
      subst e_5
      have hP : va_P D vwCl [(a1, .inr (6, [.int v1_charset, .int v1_based, .int v1_from, .int v1_to, .int v1_next])), (a0, .inr (4, [.ref b0, .int (nI l0.length), .int o0])), (b0, .inl (kI, n0, .inl f0))] H := hP
      have hD : va_D A [(a1, .inr (6, [.int v1_charset, .int v1_based, .int v1_from, .int v1_to, .int v1_next])), (a0, .inr (4, [.ref b0, .int (nI l0.length), .int o0])), (b0, .inl (kI, n0, .inl f0))] := hD
      refine lv_istore_n (lv' := [(3, .int (m_Word_endOfName l0 (p2 + 2))), (0, .ref a1), (1, .ref a0), (2, .int p2)]) hx hb d_Word_standsAt_31 rfl hl (by decide) rfl (fun ls hl => ?_)
      refine lv_aload_n hx hb d_Word_standsAt_32 rfl (lv_at hl 1 rfl) ?_
      refine lv_aload_n hx hb d_Word_standsAt_33 rfl (lv_at hl 2 rfl) ?_
      refine lv_iload_n hx hb d_Word_standsAt_34 rfl (lv_at hl 0 rfl) ?_
      refine lv_iconst (v := 1) hx hb d_Word_standsAt_35 (by decide) ?_
      refine lv_iadd hx hb d_Word_standsAt_36 ?_
      refine g_Vi (As := [.int ((m_Word_endOfName l0 (p2 + 2)) + 1)]) (rest := [.ref a1]) (wr := [(a1, .inr (6, [.int v1_charset, .int v1_based, .int v1_from, .int v1_to, .int v1_next]))]) ⟨hx, hb, hml, hown, hts⟩ (c_Row_get l D Z kI a0 b0 n0 H.size f0 l0 o0 ((m_Word_endOfName l0 (p2 + 2)) + 1) hr0) (cw_Row_get hts k_380 ⟨Nat.le_of_ble_eq_true rfl, Nat.le_of_ble_eq_true rfl⟩) hK hZ hP hD hS hA [1, 2] [0] (g_recv hK hP (ci := 4) (q0 := 1) rfl rfl) rfl rfl (by decide) (by decide) (by decide) rfl hl.1 rfl (Nat.le_of_ble_eq_true rfl) d_Word_standsAt_37 ⟨Nat.zero_le _, Nat.zero_le _⟩ (fun r_6 u_6 H locs hw hP hD hS => ?_)
      have e_6 := hw
      subst e_6
      have hP : va_P D vwCl [(a1, .inr (6, [.int v1_charset, .int v1_based, .int v1_from, .int v1_to, .int v1_next])), (a0, .inr (4, [.ref b0, .int (nI l0.length), .int o0])), (b0, .inl (kI, n0, .inl f0))] H := hP
      have hD : va_D A [(a1, .inr (6, [.int v1_charset, .int v1_based, .int v1_from, .int v1_to, .int v1_next])), (a0, .inr (4, [.ref b0, .int (nI l0.length), .int o0])), (b0, .inl (kI, n0, .inl f0))] := hD
      refine g_Vi (As := [.int (m_Row_get l0 ((m_Word_endOfName l0 (p2 + 2)) + 1))]) (rest := []) (wr := [(a0, .inr (4, [.ref b0, .int (nI l0.length), .int o0])), (b0, .inl (kI, n0, .inl f0))]) ⟨hx, hb, hml, hown, hts⟩ (c_Word_takesKind l D Z kI a1 H.size v1_charset v1_based v1_from v1_to v1_next (m_Row_get l0 ((m_Word_endOfName l0 (p2 + 2)) + 1))) (cw_Word_takesKind hts k_385 ⟨Nat.le_of_ble_eq_true rfl, Nat.le_of_ble_eq_true rfl⟩) hK hZ hP hD hS hA [0] [1, 2] (g_recv hK hP (ci := 6) (q0 := 0) rfl rfl) rfl rfl (by decide) (by decide) (by decide) rfl hl.1 rfl (Nat.le_of_ble_eq_true rfl) d_Word_standsAt_40 ⟨Nat.zero_le _, Nat.zero_le _⟩ (fun r_7 v0_based_7 H locs hw hP hD hS => ?_)
      have e_7 := hw
      have hP : va_P D vwCl [(a0, .inr (4, [.ref b0, .int (nI l0.length), .int o0])), (b0, .inl (kI, n0, .inl f0)), (a1, .inr (6, [.int v1_charset, .int v0_based_7, .int v1_from, .int v1_to, .int v1_next]))] H := hP
      have hD : va_D A [(a0, .inr (4, [.ref b0, .int (nI l0.length), .int o0])), (b0, .inl (kI, n0, .inl f0)), (a1, .inr (6, [.int v1_charset, .int v0_based_7, .int v1_from, .int v1_to, .int v1_next]))] := hD
      rw [e_7] at hF; dsimp only at hF
      refine lv_if_eq (tgt := 58) hx hb d_Word_standsAt_43 (by decide) (fun c_8 => ?_) (fun c_8 => ?_)
      · rw [if_pos c_8] at hF
        refine lv_iconst (v := 0) hx hb d_Word_standsAt_58 (by decide) ?_
        exact hret 0 (v1_charset, v0_based_7, v1_from, v1_to, v1_next) _ _ _ _ d_Word_standsAt_59 rfl (hRES.symm.trans hF) hP hD hS
      · rw [if_neg c_8] at hF
        refine lv_aload_n hx hb d_Word_standsAt_46 rfl (lv_at hl 2 rfl) ?_
        refine lv_iload_n hx hb d_Word_standsAt_47 rfl (lv_at hl 0 rfl) ?_
        refine lv_iconst (v := 2) hx hb d_Word_standsAt_48 (by decide) ?_
        refine lv_iadd hx hb d_Word_standsAt_49 ?_
        refine g_Vi (As := [.int ((m_Word_endOfName l0 (p2 + 2)) + 2)]) (rest := []) (wr := [(a1, .inr (6, [.int v1_charset, .int v0_based_7, .int v1_from, .int v1_to, .int v1_next]))]) ⟨hx, hb, hml, hown, hts⟩ (c_Row_get l D Z kI a0 b0 n0 H.size f0 l0 o0 ((m_Word_endOfName l0 (p2 + 2)) + 2) hr0) (cw_Row_get hts k_380 ⟨Nat.le_of_ble_eq_true rfl, Nat.le_of_ble_eq_true rfl⟩) hK hZ hP hD hS hA [0, 1] [2] (g_recv hK hP (ci := 4) (q0 := 0) rfl rfl) rfl rfl (by decide) (by decide) (by decide) rfl hl.1 rfl (Nat.le_of_ble_eq_true rfl) d_Word_standsAt_50 ⟨Nat.zero_le _, Nat.zero_le _⟩ (fun r_9 u_9 H locs hw hP hD hS => ?_)
        have e_9 := hw
        subst e_9
        have hP : va_P D vwCl [(a1, .inr (6, [.int v1_charset, .int v0_based_7, .int v1_from, .int v1_to, .int v1_next])), (a0, .inr (4, [.ref b0, .int (nI l0.length), .int o0])), (b0, .inl (kI, n0, .inl f0))] H := hP
        have hD : va_D A [(a1, .inr (6, [.int v1_charset, .int v0_based_7, .int v1_from, .int v1_to, .int v1_next])), (a0, .inr (4, [.ref b0, .int (nI l0.length), .int o0])), (b0, .inl (kI, n0, .inl f0))] := hD
        refine lv_bipush (v := 63) hx hb d_Word_standsAt_53 (by decide) ?_
        refine lv_icmp_eq (tgt := 60) hx hb d_Word_standsAt_55 (by decide) (fun c_10 => ?_) (fun c_10 => ?_)
        · rw [if_pos c_10] at hF
          refine lv_aload_n hx hb d_Word_standsAt_60 rfl (lv_at hl 1 rfl) ?_
          refine lv_iload_n hx hb d_Word_standsAt_61 rfl (lv_at hl 0 rfl) ?_
          refine lv_iconst (v := 3) hx hb d_Word_standsAt_62 (by decide) ?_
          refine lv_iadd hx hb d_Word_standsAt_63 ?_
          refine va_put (D := D) (ci := 6) (v := .int ((m_Word_endOfName l0 (p2 + 2)) + 3)) (ty := .int) (C := "MailCharacters$Word") (T := F_Word) (N := 5) hx hb hts i_Word t_Word t_Word_ok n_Word hown hK hP hD hS 0 rfl rfl 2 (by decide) (hts _ k_219) (fun _ h9 => h9) rfl (by decide +kernel) rfl rfl (Nat.le_of_ble_eq_true rfl) d_Word_standsAt_64 (fun H locs hP hD hS => ?_)
          have hP : va_P D vwCl [(a1, .inr (6, [.int v1_charset, .int v0_based_7, .int ((m_Word_endOfName l0 (p2 + 2)) + 3), .int v1_to, .int v1_next])), (a0, .inr (4, [.ref b0, .int (nI l0.length), .int o0])), (b0, .inl (kI, n0, .inl f0))] H := hP
          have hD : va_D A [(a1, .inr (6, [.int v1_charset, .int v0_based_7, .int ((m_Word_endOfName l0 (p2 + 2)) + 3), .int v1_to, .int v1_next])), (a0, .inr (4, [.ref b0, .int (nI l0.length), .int o0])), (b0, .inl (kI, n0, .inl f0))] := hD
          refine lv_aload_n hx hb d_Word_standsAt_67 rfl (lv_at hl 1 rfl) ?_
          refine lv_aload_n hx hb d_Word_standsAt_68 rfl (lv_at hl 2 rfl) ?_
          refine lv_aload_n hx hb d_Word_standsAt_69 rfl (lv_at hl 1 rfl) ?_
          refine va_get (D := D) (ci := 6) (v := .int ((m_Word_endOfName l0 (p2 + 2)) + 3)) (C := "MailCharacters$Word") (T := F_Word) (N := 5) hx hb hts i_Word hown hK hP 0 rfl rfl 2 (by decide) (hts _ k_219) (fun _ h9 => h9) rfl d_Word_standsAt_70 ?_
          refine g_Si (As := [.ref a0, .int ((m_Word_endOfName l0 (p2 + 2)) + 3)]) (rest := [.ref a1]) (wr := [(a1, .inr (6, [.int v1_charset, .int v0_based_7, .int ((m_Word_endOfName l0 (p2 + 2)) + 3), .int v1_to, .int v1_next]))]) ⟨hx, hb, hml, hown, hts⟩ (c_Word_endOfBytes l D Z kI a0 b0 n0 H.size f0 l0 o0 ((m_Word_endOfName l0 (p2 + 2)) + 3) hr0) (cw_Word_endOfBytes hts k_389 ⟨Nat.le_of_ble_eq_true rfl, Nat.le_of_ble_eq_true rfl⟩) hK hZ hP hD hS hA [1, 2] [0] rfl rfl (by decide) (by decide) (by decide) rfl hl.1 rfl (Nat.le_of_ble_eq_true rfl) d_Word_standsAt_73 ⟨Nat.zero_le _, Nat.zero_le _⟩ (fun r_11 u_11 H locs hw hP hD hS => ?_)
          have e_11 := hw
          subst e_11
          have hP : va_P D vwCl [(a1, .inr (6, [.int v1_charset, .int v0_based_7, .int ((m_Word_endOfName l0 (p2 + 2)) + 3), .int v1_to, .int v1_next])), (a0, .inr (4, [.ref b0, .int (nI l0.length), .int o0])), (b0, .inl (kI, n0, .inl f0))] H := hP
          have hD : va_D A [(a1, .inr (6, [.int v1_charset, .int v0_based_7, .int ((m_Word_endOfName l0 (p2 + 2)) + 3), .int v1_to, .int v1_next])), (a0, .inr (4, [.ref b0, .int (nI l0.length), .int o0])), (b0, .inl (kI, n0, .inl f0))] := hD
          refine va_put (D := D) (ci := 6) (v := .int (m_Word_endOfBytes l0 ((m_Word_endOfName l0 (p2 + 2)) + 3))) (ty := .int) (C := "MailCharacters$Word") (T := F_Word) (N := 5) hx hb hts i_Word t_Word t_Word_ok n_Word hown hK hP hD hS 0 rfl rfl 3 (by decide) (hts _ k_221) (fun _ h9 => h9) rfl (by decide +kernel) rfl rfl (Nat.le_of_ble_eq_true rfl) d_Word_standsAt_76 (fun H locs hP hD hS => ?_)
          have hP : va_P D vwCl [(a1, .inr (6, [.int v1_charset, .int v0_based_7, .int ((m_Word_endOfName l0 (p2 + 2)) + 3), .int (m_Word_endOfBytes l0 ((m_Word_endOfName l0 (p2 + 2)) + 3)), .int v1_next])), (a0, .inr (4, [.ref b0, .int (nI l0.length), .int o0])), (b0, .inl (kI, n0, .inl f0))] H := hP
          have hD : va_D A [(a1, .inr (6, [.int v1_charset, .int v0_based_7, .int ((m_Word_endOfName l0 (p2 + 2)) + 3), .int (m_Word_endOfBytes l0 ((m_Word_endOfName l0 (p2 + 2)) + 3)), .int v1_next])), (a0, .inr (4, [.ref b0, .int (nI l0.length), .int o0])), (b0, .inl (kI, n0, .inl f0))] := hD
          refine lv_aload_n hx hb d_Word_standsAt_79 rfl (lv_at hl 1 rfl) ?_
          refine lv_aload_n hx hb d_Word_standsAt_80 rfl (lv_at hl 1 rfl) ?_
          refine va_get (D := D) (ci := 6) (v := .int (m_Word_endOfBytes l0 ((m_Word_endOfName l0 (p2 + 2)) + 3))) (C := "MailCharacters$Word") (T := F_Word) (N := 5) hx hb hts i_Word hown hK hP 0 rfl rfl 3 (by decide) (hts _ k_221) (fun _ h9 => h9) rfl d_Word_standsAt_81 ?_
          refine lv_iconst (v := 2) hx hb d_Word_standsAt_84 (by decide) ?_
          refine lv_iadd hx hb d_Word_standsAt_85 ?_
          refine va_put (D := D) (ci := 6) (v := .int ((m_Word_endOfBytes l0 ((m_Word_endOfName l0 (p2 + 2)) + 3)) + 2)) (ty := .int) (C := "MailCharacters$Word") (T := F_Word) (N := 5) hx hb hts i_Word t_Word t_Word_ok n_Word hown hK hP hD hS 0 rfl rfl 4 (by decide) (hts _ k_223) (fun _ h9 => h9) rfl (by decide +kernel) rfl rfl (Nat.le_of_ble_eq_true rfl) d_Word_standsAt_86 (fun H locs hP hD hS => ?_)
          have hP : va_P D vwCl [(a1, .inr (6, [.int v1_charset, .int v0_based_7, .int ((m_Word_endOfName l0 (p2 + 2)) + 3), .int (m_Word_endOfBytes l0 ((m_Word_endOfName l0 (p2 + 2)) + 3)), .int ((m_Word_endOfBytes l0 ((m_Word_endOfName l0 (p2 + 2)) + 3)) + 2)])), (a0, .inr (4, [.ref b0, .int (nI l0.length), .int o0])), (b0, .inl (kI, n0, .inl f0))] H := hP
          have hD : va_D A [(a1, .inr (6, [.int v1_charset, .int v0_based_7, .int ((m_Word_endOfName l0 (p2 + 2)) + 3), .int (m_Word_endOfBytes l0 ((m_Word_endOfName l0 (p2 + 2)) + 3)), .int ((m_Word_endOfBytes l0 ((m_Word_endOfName l0 (p2 + 2)) + 3)) + 2)])), (a0, .inr (4, [.ref b0, .int (nI l0.length), .int o0])), (b0, .inl (kI, n0, .inl f0))] := hD
          refine lv_aload_n hx hb d_Word_standsAt_89 rfl (lv_at hl 2 rfl) ?_
          refine lv_aload_n hx hb d_Word_standsAt_90 rfl (lv_at hl 1 rfl) ?_
          refine va_get (D := D) (ci := 6) (v := .int (m_Word_endOfBytes l0 ((m_Word_endOfName l0 (p2 + 2)) + 3))) (C := "MailCharacters$Word") (T := F_Word) (N := 5) hx hb hts i_Word hown hK hP 0 rfl rfl 3 (by decide) (hts _ k_221) (fun _ h9 => h9) rfl d_Word_standsAt_91 ?_
          refine g_Vi (As := [.int (m_Word_endOfBytes l0 ((m_Word_endOfName l0 (p2 + 2)) + 3))]) (rest := []) (wr := [(a1, .inr (6, [.int v1_charset, .int v0_based_7, .int ((m_Word_endOfName l0 (p2 + 2)) + 3), .int (m_Word_endOfBytes l0 ((m_Word_endOfName l0 (p2 + 2)) + 3)), .int ((m_Word_endOfBytes l0 ((m_Word_endOfName l0 (p2 + 2)) + 3)) + 2)]))]) ⟨hx, hb, hml, hown, hts⟩ (c_Row_get l D Z kI a0 b0 n0 H.size f0 l0 o0 (m_Word_endOfBytes l0 ((m_Word_endOfName l0 (p2 + 2)) + 3)) hr0) (cw_Row_get hts k_380 ⟨Nat.le_of_ble_eq_true rfl, Nat.le_of_ble_eq_true rfl⟩) hK hZ hP hD hS hA [1, 2] [0] (g_recv hK hP (ci := 4) (q0 := 1) rfl rfl) rfl rfl (by decide) (by decide) (by decide) rfl hl.1 rfl (Nat.le_of_ble_eq_true rfl) d_Word_standsAt_94 ⟨Nat.zero_le _, Nat.zero_le _⟩ (fun r_12 u_12 H locs hw hP hD hS => ?_)
          have e_12 := hw
          subst e_12
          have hP : va_P D vwCl [(a1, .inr (6, [.int v1_charset, .int v0_based_7, .int ((m_Word_endOfName l0 (p2 + 2)) + 3), .int (m_Word_endOfBytes l0 ((m_Word_endOfName l0 (p2 + 2)) + 3)), .int ((m_Word_endOfBytes l0 ((m_Word_endOfName l0 (p2 + 2)) + 3)) + 2)])), (a0, .inr (4, [.ref b0, .int (nI l0.length), .int o0])), (b0, .inl (kI, n0, .inl f0))] H := hP
          have hD : va_D A [(a1, .inr (6, [.int v1_charset, .int v0_based_7, .int ((m_Word_endOfName l0 (p2 + 2)) + 3), .int (m_Word_endOfBytes l0 ((m_Word_endOfName l0 (p2 + 2)) + 3)), .int ((m_Word_endOfBytes l0 ((m_Word_endOfName l0 (p2 + 2)) + 3)) + 2)])), (a0, .inr (4, [.ref b0, .int (nI l0.length), .int o0])), (b0, .inl (kI, n0, .inl f0))] := hD
          refine lv_bipush (v := 63) hx hb d_Word_standsAt_97 (by decide) ?_
          refine lv_icmp_ne (tgt := 117) hx hb d_Word_standsAt_99 (by decide) (fun c_13 => ?_) (fun c_13 => ?_)
          · rw [if_neg c_13] at hF
            refine lv_iconst (v := 0) hx hb d_Word_standsAt_117 (by decide) ?_
            exact hret 0 (v1_charset, v0_based_7, ((m_Word_endOfName l0 (p2 + 2)) + 3), (m_Word_endOfBytes l0 ((m_Word_endOfName l0 (p2 + 2)) + 3)), ((m_Word_endOfBytes l0 ((m_Word_endOfName l0 (p2 + 2)) + 3)) + 2)) _ _ _ _ d_Word_standsAt_118 rfl (hRES.symm.trans hF) (hP.sub [1, 2, 0] rfl) (hD.sub [1, 2, 0] (by decide) rfl) hS
          · rw [if_pos c_13] at hF
            refine lv_aload_n hx hb d_Word_standsAt_102 rfl (lv_at hl 2 rfl) ?_
            refine lv_aload_n hx hb d_Word_standsAt_103 rfl (lv_at hl 1 rfl) ?_
            refine va_get (D := D) (ci := 6) (v := .int (m_Word_endOfBytes l0 ((m_Word_endOfName l0 (p2 + 2)) + 3))) (C := "MailCharacters$Word") (T := F_Word) (N := 5) hx hb hts i_Word hown hK hP 0 rfl rfl 3 (by decide) (hts _ k_221) (fun _ h9 => h9) rfl d_Word_standsAt_104 ?_
            refine lv_iconst (v := 1) hx hb d_Word_standsAt_107 (by decide) ?_
            refine lv_iadd hx hb d_Word_standsAt_108 ?_
            refine g_Vi (As := [.int ((m_Word_endOfBytes l0 ((m_Word_endOfName l0 (p2 + 2)) + 3)) + 1)]) (rest := []) (wr := [(a1, .inr (6, [.int v1_charset, .int v0_based_7, .int ((m_Word_endOfName l0 (p2 + 2)) + 3), .int (m_Word_endOfBytes l0 ((m_Word_endOfName l0 (p2 + 2)) + 3)), .int ((m_Word_endOfBytes l0 ((m_Word_endOfName l0 (p2 + 2)) + 3)) + 2)]))]) ⟨hx, hb, hml, hown, hts⟩ (c_Row_get l D Z kI a0 b0 n0 H.size f0 l0 o0 ((m_Word_endOfBytes l0 ((m_Word_endOfName l0 (p2 + 2)) + 3)) + 1) hr0) (cw_Row_get hts k_380 ⟨Nat.le_of_ble_eq_true rfl, Nat.le_of_ble_eq_true rfl⟩) hK hZ hP hD hS hA [1, 2] [0] (g_recv hK hP (ci := 4) (q0 := 1) rfl rfl) rfl rfl (by decide) (by decide) (by decide) rfl hl.1 rfl (Nat.le_of_ble_eq_true rfl) d_Word_standsAt_109 ⟨Nat.zero_le _, Nat.zero_le _⟩ (fun r_14 u_14 H locs hw hP hD hS => ?_)
            have e_14 := hw
            subst e_14
            have hP : va_P D vwCl [(a1, .inr (6, [.int v1_charset, .int v0_based_7, .int ((m_Word_endOfName l0 (p2 + 2)) + 3), .int (m_Word_endOfBytes l0 ((m_Word_endOfName l0 (p2 + 2)) + 3)), .int ((m_Word_endOfBytes l0 ((m_Word_endOfName l0 (p2 + 2)) + 3)) + 2)])), (a0, .inr (4, [.ref b0, .int (nI l0.length), .int o0])), (b0, .inl (kI, n0, .inl f0))] H := hP
            have hD : va_D A [(a1, .inr (6, [.int v1_charset, .int v0_based_7, .int ((m_Word_endOfName l0 (p2 + 2)) + 3), .int (m_Word_endOfBytes l0 ((m_Word_endOfName l0 (p2 + 2)) + 3)), .int ((m_Word_endOfBytes l0 ((m_Word_endOfName l0 (p2 + 2)) + 3)) + 2)])), (a0, .inr (4, [.ref b0, .int (nI l0.length), .int o0])), (b0, .inl (kI, n0, .inl f0))] := hD
            refine lv_bipush (v := 61) hx hb d_Word_standsAt_112 (by decide) ?_
            refine lv_icmp_eq (tgt := 119) hx hb d_Word_standsAt_114 (by decide) (fun c_15 => ?_) (fun c_15 => ?_)
            · rw [if_pos c_15] at hF
              refine lv_aload_n hx hb d_Word_standsAt_119 rfl (lv_at hl 1 rfl) ?_
              refine lv_aload_n hx hb d_Word_standsAt_120 rfl (lv_at hl 2 rfl) ?_
              refine lv_iload_n hx hb d_Word_standsAt_121 rfl (lv_at hl 3 rfl) ?_
              refine lv_iconst (v := 2) hx hb d_Word_standsAt_122 (by decide) ?_
              refine lv_iadd hx hb d_Word_standsAt_123 ?_
              refine lv_aload_n hx hb d_Word_standsAt_124 rfl (lv_at hl 2 rfl) ?_
              refine lv_iload_n hx hb d_Word_standsAt_125 rfl (lv_at hl 3 rfl) ?_
              refine lv_iconst (v := 2) hx hb d_Word_standsAt_126 (by decide) ?_
              refine lv_iadd hx hb d_Word_standsAt_127 ?_
              refine lv_iload_n hx hb d_Word_standsAt_128 rfl (lv_at hl 0 rfl) ?_
              refine g_Si (As := [.ref a0, .int (p2 + 2), .int (m_Word_endOfName l0 (p2 + 2))]) (rest := [.int (p2 + 2), .ref a0, .ref a1]) (wr := [(a1, .inr (6, [.int v1_charset, .int v0_based_7, .int ((m_Word_endOfName l0 (p2 + 2)) + 3), .int (m_Word_endOfBytes l0 ((m_Word_endOfName l0 (p2 + 2)) + 3)), .int ((m_Word_endOfBytes l0 ((m_Word_endOfName l0 (p2 + 2)) + 3)) + 2)]))]) ⟨hx, hb, hml, hown, hts⟩ (c_Word_starOrEnd l D Z kI a0 b0 n0 H.size f0 l0 o0 (p2 + 2) (m_Word_endOfName l0 (p2 + 2)) hr0) (cw_Word_starOrEnd hts k_392 ⟨Nat.le_of_ble_eq_true rfl, Nat.le_of_ble_eq_true rfl⟩) hK hZ hP hD hS hA [1, 2] [0] rfl rfl (by decide) (by decide) (by decide) rfl hl.1 rfl (Nat.le_of_ble_eq_true rfl) d_Word_standsAt_129 ⟨Nat.zero_le _, Nat.zero_le _⟩ (fun r_16 u_16 H locs hw hP hD hS => ?_)
              have e_16 := hw
              subst e_16
              have hP : va_P D vwCl [(a1, .inr (6, [.int v1_charset, .int v0_based_7, .int ((m_Word_endOfName l0 (p2 + 2)) + 3), .int (m_Word_endOfBytes l0 ((m_Word_endOfName l0 (p2 + 2)) + 3)), .int ((m_Word_endOfBytes l0 ((m_Word_endOfName l0 (p2 + 2)) + 3)) + 2)])), (a0, .inr (4, [.ref b0, .int (nI l0.length), .int o0])), (b0, .inl (kI, n0, .inl f0))] H := hP
              have hD : va_D A [(a1, .inr (6, [.int v1_charset, .int v0_based_7, .int ((m_Word_endOfName l0 (p2 + 2)) + 3), .int (m_Word_endOfBytes l0 ((m_Word_endOfName l0 (p2 + 2)) + 3)), .int ((m_Word_endOfBytes l0 ((m_Word_endOfName l0 (p2 + 2)) + 3)) + 2)])), (a0, .inr (4, [.ref b0, .int (nI l0.length), .int o0])), (b0, .inl (kI, n0, .inl f0))] := hD
              refine g_Si (As := [.ref a0, .int (p2 + 2), .int (m_Word_starOrEnd l0 (p2 + 2) (m_Word_endOfName l0 (p2 + 2)))]) (rest := [.ref a1]) (wr := [(a1, .inr (6, [.int v1_charset, .int v0_based_7, .int ((m_Word_endOfName l0 (p2 + 2)) + 3), .int (m_Word_endOfBytes l0 ((m_Word_endOfName l0 (p2 + 2)) + 3)), .int ((m_Word_endOfBytes l0 ((m_Word_endOfName l0 (p2 + 2)) + 3)) + 2)]))]) ⟨hx, hb, hml, hown, hts⟩ (c_Names_charsetOf l D Z kI a0 b0 n0 H.size f0 l0 o0 (p2 + 2) (m_Word_starOrEnd l0 (p2 + 2) (m_Word_endOfName l0 (p2 + 2))) hr0) (cw_Names_charsetOf hts k_395 ⟨Nat.le_of_ble_eq_true rfl, Nat.le_of_ble_eq_true rfl⟩) hK hZ hP hD hS hA [1, 2] [0] rfl rfl (by decide) (by decide) (by decide) rfl hl.1 rfl (Nat.le_of_ble_eq_true rfl) d_Word_standsAt_132 ⟨Nat.zero_le _, Nat.zero_le _⟩ (fun r_17 u_17 H locs hw hP hD hS => ?_)
              have e_17 := hw
              subst e_17
              have hP : va_P D vwCl [(a1, .inr (6, [.int v1_charset, .int v0_based_7, .int ((m_Word_endOfName l0 (p2 + 2)) + 3), .int (m_Word_endOfBytes l0 ((m_Word_endOfName l0 (p2 + 2)) + 3)), .int ((m_Word_endOfBytes l0 ((m_Word_endOfName l0 (p2 + 2)) + 3)) + 2)])), (a0, .inr (4, [.ref b0, .int (nI l0.length), .int o0])), (b0, .inl (kI, n0, .inl f0))] H := hP
              have hD : va_D A [(a1, .inr (6, [.int v1_charset, .int v0_based_7, .int ((m_Word_endOfName l0 (p2 + 2)) + 3), .int (m_Word_endOfBytes l0 ((m_Word_endOfName l0 (p2 + 2)) + 3)), .int ((m_Word_endOfBytes l0 ((m_Word_endOfName l0 (p2 + 2)) + 3)) + 2)])), (a0, .inr (4, [.ref b0, .int (nI l0.length), .int o0])), (b0, .inl (kI, n0, .inl f0))] := hD
              refine va_put (D := D) (ci := 6) (v := .int (m_Names_charsetOf l0 (p2 + 2) (m_Word_starOrEnd l0 (p2 + 2) (m_Word_endOfName l0 (p2 + 2))))) (ty := .int) (C := "MailCharacters$Word") (T := F_Word) (N := 5) hx hb hts i_Word t_Word t_Word_ok n_Word hown hK hP hD hS 0 rfl rfl 0 (by decide) (hts _ k_215) (fun _ h9 => h9) rfl (by decide +kernel) rfl rfl (Nat.le_of_ble_eq_true rfl) d_Word_standsAt_135 (fun H locs hP hD hS => ?_)
              have hP : va_P D vwCl [(a1, .inr (6, [.int (m_Names_charsetOf l0 (p2 + 2) (m_Word_starOrEnd l0 (p2 + 2) (m_Word_endOfName l0 (p2 + 2)))), .int v0_based_7, .int ((m_Word_endOfName l0 (p2 + 2)) + 3), .int (m_Word_endOfBytes l0 ((m_Word_endOfName l0 (p2 + 2)) + 3)), .int ((m_Word_endOfBytes l0 ((m_Word_endOfName l0 (p2 + 2)) + 3)) + 2)])), (a0, .inr (4, [.ref b0, .int (nI l0.length), .int o0])), (b0, .inl (kI, n0, .inl f0))] H := hP
              have hD : va_D A [(a1, .inr (6, [.int (m_Names_charsetOf l0 (p2 + 2) (m_Word_starOrEnd l0 (p2 + 2) (m_Word_endOfName l0 (p2 + 2)))), .int v0_based_7, .int ((m_Word_endOfName l0 (p2 + 2)) + 3), .int (m_Word_endOfBytes l0 ((m_Word_endOfName l0 (p2 + 2)) + 3)), .int ((m_Word_endOfBytes l0 ((m_Word_endOfName l0 (p2 + 2)) + 3)) + 2)])), (a0, .inr (4, [.ref b0, .int (nI l0.length), .int o0])), (b0, .inl (kI, n0, .inl f0))] := hD
              refine lv_aload_n hx hb d_Word_standsAt_138 rfl (lv_at hl 1 rfl) ?_
              refine va_get (D := D) (ci := 6) (v := .int (m_Names_charsetOf l0 (p2 + 2) (m_Word_starOrEnd l0 (p2 + 2) (m_Word_endOfName l0 (p2 + 2))))) (C := "MailCharacters$Word") (T := F_Word) (N := 5) hx hb hts i_Word hown hK hP 0 rfl rfl 0 (by decide) (hts _ k_215) (fun _ h9 => h9) rfl d_Word_standsAt_139 ?_
              refine lv_iconst (v := (-1)) hx hb d_Word_standsAt_142 (by decide) ?_
              refine lv_icmp_eq (tgt := 150) hx hb d_Word_standsAt_143 (by decide) (fun c_18 => ?_) (fun c_18 => ?_)
              · rw [if_pos c_18] at hF
                refine lv_iconst (v := 0) hx hb d_Word_standsAt_150 (by decide) ?_
                exact hret 0 ((m_Names_charsetOf l0 (p2 + 2) (m_Word_starOrEnd l0 (p2 + 2) (m_Word_endOfName l0 (p2 + 2)))), v0_based_7, ((m_Word_endOfName l0 (p2 + 2)) + 3), (m_Word_endOfBytes l0 ((m_Word_endOfName l0 (p2 + 2)) + 3)), ((m_Word_endOfBytes l0 ((m_Word_endOfName l0 (p2 + 2)) + 3)) + 2)) _ _ _ _ d_Word_standsAt_151 rfl (hRES.symm.trans hF) (hP.sub [1, 2, 0] rfl) (hD.sub [1, 2, 0] (by decide) rfl) hS
              · rw [if_neg c_18] at hF
                refine lv_iconst (v := 1) hx hb d_Word_standsAt_146 (by decide) ?_
                refine lv_goto (tgt := 151) hx hb d_Word_standsAt_147 (by decide) ?_
                exact hret 1 ((m_Names_charsetOf l0 (p2 + 2) (m_Word_starOrEnd l0 (p2 + 2) (m_Word_endOfName l0 (p2 + 2)))), v0_based_7, ((m_Word_endOfName l0 (p2 + 2)) + 3), (m_Word_endOfBytes l0 ((m_Word_endOfName l0 (p2 + 2)) + 3)), ((m_Word_endOfBytes l0 ((m_Word_endOfName l0 (p2 + 2)) + 3)) + 2)) _ _ _ _ d_Word_standsAt_151 rfl (hRES.symm.trans hF) (hP.sub [1, 2, 0] rfl) (hD.sub [1, 2, 0] (by decide) rfl) hS
            · rw [if_neg c_15] at hF
              refine lv_iconst (v := 0) hx hb d_Word_standsAt_117 (by decide) ?_
              exact hret 0 (v1_charset, v0_based_7, ((m_Word_endOfName l0 (p2 + 2)) + 3), (m_Word_endOfBytes l0 ((m_Word_endOfName l0 (p2 + 2)) + 3)), ((m_Word_endOfBytes l0 ((m_Word_endOfName l0 (p2 + 2)) + 3)) + 2)) _ _ _ _ d_Word_standsAt_118 rfl (hRES.symm.trans hF) (hP.sub [1, 2, 0] rfl) (hD.sub [1, 2, 0] (by decide) rfl) hS
        · rw [if_neg c_10] at hF
          refine lv_iconst (v := 0) hx hb d_Word_standsAt_58 (by decide) ?_
          exact hret 0 (v1_charset, v0_based_7, v1_from, v1_to, v1_next) _ _ _ _ d_Word_standsAt_59 rfl (hRES.symm.trans hF) (hP.sub [1, 2, 0] rfl) (hD.sub [1, 2, 0] (by decide) rfl) hS
    · rw [if_neg c_4] at hF
      refine lv_iconst (v := 0) hx hb d_Word_standsAt_22 (by decide) ?_
      exact hret 0 (v1_charset, v1_based, v1_from, v1_to, v1_next) _ _ _ _ d_Word_standsAt_23 rfl (hRES.symm.trans hF) (hP.sub [1, 2, 0] rfl) (hD.sub [1, 2, 0] (by decide) rfl) hS
theorem cw_Word_standsAt {R : Room} {s : State} {args : Array Value} {own : String} {idx : Nat} (hts : ∀ w ∈ gW, w.before args s = true) (hl : Cond.methodLink own idx y_Word_standsAt ∈ gW) (hR : rm_Word_standsAt.frames + 1 ≤ R.frames ∧ 8 + (4 + 11) + rm_Word_standsAt.locals ≤ R.locals) : CallW R s args own "MailCharacters$Word" idx y_Word_standsAt b_Word_standsAt 4 (some .boolean) w_Word_standsAt rm_Word_standsAt 0 0 2 := cwV 2 hts (gW_V hl k_377 k_378 k_76 k_379) rfl rfl rfl (by decide +kernel) hR
def m_Reader_readUtf16Marked (n1 : Nat) (v0_firstHalf : Int32) (l1 : List Int32) (o1 : Int32) (l2 : List Int32) (p2 : Int32) (p3 : Int32) : Int32 × List Int32 × Int32 :=
  if (p3 - p2) < 2 then
    match (m_Reader_readUtf16 n1 v0_firstHalf l1 o1 l2 p2 p3 1) with
    | (v0_firstHalf_5, l1_5, o1_5) =>
      (v0_firstHalf_5, l1_5, o1_5)
  else
    if (m_Row_get l2 p2) = 254 then
      if (m_Row_get l2 (p2 + 1)) = 255 then
        match (m_Reader_readUtf16 n1 v0_firstHalf l1 o1 l2 (p2 + 2) p3 1) with
        | (v0_firstHalf_21, l1_21, o1_21) =>
          (v0_firstHalf_21, l1_21, o1_21)
      else
        if (m_Row_get l2 p2) = 255 then
          if (m_Row_get l2 (p2 + 1)) = 254 then
            match (m_Reader_readUtf16 n1 v0_firstHalf l1 o1 l2 (p2 + 2) p3 0) with
            | (v0_firstHalf_20, l1_20, o1_20) =>
              (v0_firstHalf_20, l1_20, o1_20)
          else
            match (m_Reader_readUtf16 n1 v0_firstHalf l1 o1 l2 p2 p3 1) with
            | (v0_firstHalf_19, l1_19, o1_19) =>
              (v0_firstHalf_19, l1_19, o1_19)
        else
          match (m_Reader_readUtf16 n1 v0_firstHalf l1 o1 l2 p2 p3 1) with
          | (v0_firstHalf_17, l1_17, o1_17) =>
            (v0_firstHalf_17, l1_17, o1_17)
    else
      if (m_Row_get l2 p2) = 255 then
        if (m_Row_get l2 (p2 + 1)) = 254 then
          match (m_Reader_readUtf16 n1 v0_firstHalf l1 o1 l2 (p2 + 2) p3 0) with
          | (v0_firstHalf_14, l1_14, o1_14) =>
            (v0_firstHalf_14, l1_14, o1_14)
        else
          match (m_Reader_readUtf16 n1 v0_firstHalf l1 o1 l2 p2 p3 1) with
          | (v0_firstHalf_13, l1_13, o1_13) =>
            (v0_firstHalf_13, l1_13, o1_13)
      else
        match (m_Reader_readUtf16 n1 v0_firstHalf l1 o1 l2 p2 p3 1) with
        | (v0_firstHalf_11, l1_11, o1_11) =>
          (v0_firstHalf_11, l1_11, o1_11)
def rm_Reader_readUtf16Marked : Room := { frames := 4, cells := 0, slots := 0, locals := 93 }
set_option maxHeartbeats 4000000 in
set_option maxRecDepth 100000 in
theorem c_Reader_readUtf16Marked (l : Launch) (D : va_G) (Z : gZT) (kI : ClassId) (a0 : Nat) (x0_bits : Nat) (a1 : Nat) (b1 : Nat) (n1 : Nat) (a2 : Nat) (b2 : Nat) (n2 : Nat) (sz : Nat) (v0_firstHalf : Int32) (f1 : Nat → Int32) (l1 : List Int32) (o1 : Int32) (f2 : Nat → Int32) (l2 : List Int32) (o2 : Int32) (p2 : Int32) (p3 : Int32) (hr1 : g_rw n1 f1 l1) (hr2 : g_rw n2 f2 l2) (hpre0 : ¬ 3000 < p3.toInt) : gMv l y_Reader_readUtf16Marked w_Reader_readUtf16Marked rm_Reader_readUtf16Marked D Z kI [.ref a0, .ref a2, .int p2, .int p3, .ref a1] sz [(a0, .inr (3, [.ref x0_bits, .int v0_firstHalf])), (a1, .inr (4, [.ref b1, .int (nI l1.length), .int o1])), (b1, .inl (kI, n1, .inl f1)), (a2, .inr (4, [.ref b2, .int (nI l2.length), .int o2])), (b2, .inl (kI, n2, .inl f2))] (fun (u : Int32 × (Nat → Int32) × List Int32 × Int32) => m_Reader_readUtf16Marked n1 v0_firstHalf l1 o1 l2 p2 p3 = (u.1, u.2.2.1, u.2.2.2) ∧ g_rw n1 u.2.1 u.2.2.1) (fun (u : Int32 × (Nat → Int32) × List Int32 × Int32) => ([(a0, .inr (3, [.ref x0_bits, .int u.1])), (a1, .inr (4, [.ref b1, .int (nI u.2.2.1.length), .int u.2.2.2])), (b1, .inl (kI, n1, .inl u.2.1)), (a2, .inr (4, [.ref b2, .int (nI l2.length), .int o2])), (b2, .inl (kI, n2, .inl f2))] : va_W)) := by
  refine g_ofv (cc := b_Reader_readUtf16Marked) (maxL := 7) (by decide) rfl (Nat.le_of_ble_eq_true rfl) ?_
  intro p e s m below meth c A Q H ls hx hb hml hown hts hA hK hZ hP hD hS hl hret
  have hown : s.vm.findClass "MailCharacters$Reader" = some m.cls := hown
  have hl : lv_has ls 7 [(0, .ref a0), (1, .ref a2), (2, .int p2), (3, .int p3), (4, .ref a1)] := hl
  obtain ⟨RES, hRES⟩ : ∃ z, z = m_Reader_readUtf16Marked n1 v0_firstHalf l1 o1 l2 p2 p3 := ⟨_, rfl⟩
  have hF := hRES
  rw [m_Reader_readUtf16Marked] at hF
  refine lv_iload_n hx hb d_Reader_readUtf16Marked_0 rfl (lv_at hl 3 rfl) ?_
  refine lv_iload_n hx hb d_Reader_readUtf16Marked_1 rfl (lv_at hl 2 rfl) ?_
  refine lv_isub hx hb d_Reader_readUtf16Marked_2 ?_
  refine lv_iconst (v := 2) hx hb d_Reader_readUtf16Marked_3 (by decide) ?_
  refine lv_icmp_lt (tgt := 15) hx hb d_Reader_readUtf16Marked_4 (by decide) (fun c_1 => ?_) (fun c_1 => ?_)
  · rw [if_pos c_1] at hF
    refine lv_iconst (v := (-1)) hx hb d_Reader_readUtf16Marked_15 (by decide) ?_
    refine lv_istore (lv' := [(5, .int (-1)), (0, .ref a0), (1, .ref a2), (2, .int p2), (3, .int p3), (4, .ref a1)]) hx hb d_Reader_readUtf16Marked_16 hl (by decide) rfl (fun ls hl => ?_)
    refine lv_iload_n hx hb d_Reader_readUtf16Marked_18 rfl (lv_at hl 4 rfl) ?_
    refine lv_iload_n hx hb d_Reader_readUtf16Marked_19 rfl (lv_at hl 3 rfl) ?_
    refine lv_isub hx hb d_Reader_readUtf16Marked_20 ?_
    refine lv_iconst (v := 2) hx hb d_Reader_readUtf16Marked_21 (by decide) ?_
    refine lv_icmp_lt (tgt := 35) hx hb d_Reader_readUtf16Marked_22 (by decide) (fun c_2 => ?_) (fun c_2 => ?_)
    · refine lv_iconst (v := (-1)) hx hb d_Reader_readUtf16Marked_35 (by decide) ?_
      refine lv_istore (lv' := [(6, .int (-1)), (5, .int (-1)), (0, .ref a0), (1, .ref a2), (2, .int p2), (3, .int p3), (4, .ref a1)]) hx hb d_Reader_readUtf16Marked_36 hl (by decide) rfl (fun ls hl => ?_)
      refine lv_iload hx hb d_Reader_readUtf16Marked_38 (lv_at hl 1 rfl) ?_
      refine lv_sipush (v := 254) hx hb d_Reader_readUtf16Marked_40 (by decide) ?_
      refine lv_icmp_ne (tgt := 69) hx hb d_Reader_readUtf16Marked_43 (by decide) (fun c_3 => ?_) (fun c_3 => ?_)
      · refine lv_iload hx hb d_Reader_readUtf16Marked_69 (lv_at hl 1 rfl) ?_
        refine lv_sipush (v := 255) hx hb d_Reader_readUtf16Marked_71 (by decide) ?_
        refine lv_icmp_ne (tgt := 100) hx hb d_Reader_readUtf16Marked_74 (by decide) (fun c_4 => ?_) (fun c_4 => ?_)
        · refine lv_aload_n hx hb d_Reader_readUtf16Marked_100 rfl (lv_at hl 2 rfl) ?_
          refine lv_aload_n hx hb d_Reader_readUtf16Marked_101 rfl (lv_at hl 3 rfl) ?_
          refine lv_iload_n hx hb d_Reader_readUtf16Marked_102 rfl (lv_at hl 4 rfl) ?_
          refine lv_iload_n hx hb d_Reader_readUtf16Marked_103 rfl (lv_at hl 5 rfl) ?_
          refine lv_iconst (v := 1) hx hb d_Reader_readUtf16Marked_104 (by decide) ?_
          refine lv_aload hx hb d_Reader_readUtf16Marked_105 (lv_at hl 6 rfl) ?_
          refine g_Vv (As := [.ref a2, .int p2, .int p3, .int 1, .ref a1]) (rest := []) (wr := []) ⟨hx, hb, hml, hown, hts⟩ (c_Reader_readUtf16 l D Z kI a0 x0_bits a1 b1 n1 a2 b2 n2 H.size v0_firstHalf f1 l1 o1 f2 l2 o2 p2 p3 1 hr1 hr2 hpre0) (cw_Reader_readUtf16 hts k_424 ⟨Nat.le_of_ble_eq_true rfl, Nat.le_of_ble_eq_true rfl⟩) hK hZ hP hD hS hA [0, 1, 2, 3, 4] [] (g_recv hK hP (ci := 3) (q0 := 0) rfl rfl) rfl rfl (by decide) (by decide) (by decide) rfl hl.1 rfl (Nat.le_of_ble_eq_true rfl) d_Reader_readUtf16Marked_107 ⟨Nat.zero_le _, Nat.zero_le _⟩ (fun u_5 H locs hw hP hD hS => ?_)
          obtain ⟨v0_firstHalf_5, f1_5, l1_5, o1_5⟩ := u_5
          have e_5 := hw.1
          have hr1_5 := hw.2
          have hP : va_P D vwCl [(a0, .inr (3, [.ref x0_bits, .int v0_firstHalf_5])), (a1, .inr (4, [.ref b1, .int (nI l1_5.length), .int o1_5])), (b1, .inl (kI, n1, .inl f1_5)), (a2, .inr (4, [.ref b2, .int (nI l2.length), .int o2])), (b2, .inl (kI, n2, .inl f2))] H := hP
          have hD : va_D A [(a0, .inr (3, [.ref x0_bits, .int v0_firstHalf_5])), (a1, .inr (4, [.ref b1, .int (nI l1_5.length), .int o1_5])), (b1, .inl (kI, n1, .inl f1_5)), (a2, .inr (4, [.ref b2, .int (nI l2.length), .int o2])), (b2, .inl (kI, n2, .inl f2))] := hD
          rw [e_5] at hF; dsimp only at hF
          exact hret (v0_firstHalf_5, f1_5, l1_5, o1_5) _ _ _ _ d_Reader_readUtf16Marked_110 (⟨hRES.symm.trans hF, hr1_5⟩) hP hD hS
        · exact absurd c_4 (by decide)
      · exact absurd c_3 (by decide)
    · exact absurd c_1 c_2
  · rw [if_neg c_1] at hF
    refine lv_aload_n hx hb d_Reader_readUtf16Marked_7 rfl (lv_at hl 1 rfl) ?_
    refine lv_iload_n hx hb d_Reader_readUtf16Marked_8 rfl (lv_at hl 2 rfl) ?_
    refine g_Vi (As := [.int p2]) (rest := []) (wr := [(a0, .inr (3, [.ref x0_bits, .int v0_firstHalf])), (a1, .inr (4, [.ref b1, .int (nI l1.length), .int o1])), (b1, .inl (kI, n1, .inl f1))]) ⟨hx, hb, hml, hown, hts⟩ (c_Row_get l D Z kI a2 b2 n2 H.size f2 l2 o2 p2 hr2) (cw_Row_get hts k_408 ⟨Nat.le_of_ble_eq_true rfl, Nat.le_of_ble_eq_true rfl⟩) hK hZ hP hD hS hA [3, 4] [0, 1, 2] (g_recv hK hP (ci := 4) (q0 := 3) rfl rfl) rfl rfl (by decide) (by decide) (by decide) rfl hl.1 rfl (Nat.le_of_ble_eq_true rfl) d_Reader_readUtf16Marked_9 ⟨Nat.zero_le _, Nat.zero_le _⟩ (fun r_6 u_6 H locs hw hP hD hS => ?_)
    have e_6 := hw
    subst e_6
    have hP : va_P D vwCl [(a0, .inr (3, [.ref x0_bits, .int v0_firstHalf])), (a1, .inr (4, [.ref b1, .int (nI l1.length), .int o1])), (b1, .inl (kI, n1, .inl f1)), (a2, .inr (4, [.ref b2, .int (nI l2.length), .int o2])), (b2, .inl (kI, n2, .inl f2))] H := hP
    have hD : va_D A [(a0, .inr (3, [.ref x0_bits, .int v0_firstHalf])), (a1, .inr (4, [.ref b1, .int (nI l1.length), .int o1])), (b1, .inl (kI, n1, .inl f1)), (a2, .inr (4, [.ref b2, .int (nI l2.length), .int o2])), (b2, .inl (kI, n2, .inl f2))] := hD
    refine lv_goto (tgt := 16) hx hb d_Reader_readUtf16Marked_12 (by decide) ?_
    refine lv_istore (lv' := [(5, .int (m_Row_get l2 p2)), (0, .ref a0), (1, .ref a2), (2, .int p2), (3, .int p3), (4, .ref a1)]) hx hb d_Reader_readUtf16Marked_16 hl (by decide) rfl (fun ls hl => ?_)
    refine lv_iload_n hx hb d_Reader_readUtf16Marked_18 rfl (lv_at hl 4 rfl) ?_
    refine lv_iload_n hx hb d_Reader_readUtf16Marked_19 rfl (lv_at hl 3 rfl) ?_
    refine lv_isub hx hb d_Reader_readUtf16Marked_20 ?_
    refine lv_iconst (v := 2) hx hb d_Reader_readUtf16Marked_21 (by decide) ?_
    refine lv_icmp_lt (tgt := 35) hx hb d_Reader_readUtf16Marked_22 (by decide) (fun c_7 => ?_) (fun c_7 => ?_)
    · exact absurd c_7 c_1
    · refine lv_aload_n hx hb d_Reader_readUtf16Marked_25 rfl (lv_at hl 2 rfl) ?_
      refine lv_iload_n hx hb d_Reader_readUtf16Marked_26 rfl (lv_at hl 3 rfl) ?_
      refine lv_iconst (v := 1) hx hb d_Reader_readUtf16Marked_27 (by decide) ?_
      refine lv_iadd hx hb d_Reader_readUtf16Marked_28 ?_
      refine g_Vi (As := [.int (p2 + 1)]) (rest := []) (wr := [(a0, .inr (3, [.ref x0_bits, .int v0_firstHalf])), (a1, .inr (4, [.ref b1, .int (nI l1.length), .int o1])), (b1, .inl (kI, n1, .inl f1))]) ⟨hx, hb, hml, hown, hts⟩ (c_Row_get l D Z kI a2 b2 n2 H.size f2 l2 o2 (p2 + 1) hr2) (cw_Row_get hts k_408 ⟨Nat.le_of_ble_eq_true rfl, Nat.le_of_ble_eq_true rfl⟩) hK hZ hP hD hS hA [3, 4] [0, 1, 2] (g_recv hK hP (ci := 4) (q0 := 3) rfl rfl) rfl rfl (by decide) (by decide) (by decide) rfl hl.1 rfl (Nat.le_of_ble_eq_true rfl) d_Reader_readUtf16Marked_29 ⟨Nat.zero_le _, Nat.zero_le _⟩ (fun r_8 u_8 H locs hw hP hD hS => ?_)
      have e_8 := hw
      subst e_8
      have hP : va_P D vwCl [(a0, .inr (3, [.ref x0_bits, .int v0_firstHalf])), (a1, .inr (4, [.ref b1, .int (nI l1.length), .int o1])), (b1, .inl (kI, n1, .inl f1)), (a2, .inr (4, [.ref b2, .int (nI l2.length), .int o2])), (b2, .inl (kI, n2, .inl f2))] H := hP
      have hD : va_D A [(a0, .inr (3, [.ref x0_bits, .int v0_firstHalf])), (a1, .inr (4, [.ref b1, .int (nI l1.length), .int o1])), (b1, .inl (kI, n1, .inl f1)), (a2, .inr (4, [.ref b2, .int (nI l2.length), .int o2])), (b2, .inl (kI, n2, .inl f2))] := hD
      refine lv_goto (tgt := 36) hx hb d_Reader_readUtf16Marked_32 (by decide) ?_
      refine lv_istore (lv' := [(6, .int (m_Row_get l2 (p2 + 1))), (5, .int (m_Row_get l2 p2)), (0, .ref a0), (1, .ref a2), (2, .int p2), (3, .int p3), (4, .ref a1)]) hx hb d_Reader_readUtf16Marked_36 hl (by decide) rfl (fun ls hl => ?_)
      refine lv_iload hx hb d_Reader_readUtf16Marked_38 (lv_at hl 1 rfl) ?_
      refine lv_sipush (v := 254) hx hb d_Reader_readUtf16Marked_40 (by decide) ?_
      refine lv_icmp_ne (tgt := 69) hx hb d_Reader_readUtf16Marked_43 (by decide) (fun c_9 => ?_) (fun c_9 => ?_)
      · rw [if_neg c_9] at hF
        refine lv_iload hx hb d_Reader_readUtf16Marked_69 (lv_at hl 1 rfl) ?_
        refine lv_sipush (v := 255) hx hb d_Reader_readUtf16Marked_71 (by decide) ?_
        refine lv_icmp_ne (tgt := 100) hx hb d_Reader_readUtf16Marked_74 (by decide) (fun c_10 => ?_) (fun c_10 => ?_)
        · rw [if_neg c_10] at hF
          refine lv_aload_n hx hb d_Reader_readUtf16Marked_100 rfl (lv_at hl 2 rfl) ?_
          refine lv_aload_n hx hb d_Reader_readUtf16Marked_101 rfl (lv_at hl 3 rfl) ?_
          refine lv_iload_n hx hb d_Reader_readUtf16Marked_102 rfl (lv_at hl 4 rfl) ?_
          refine lv_iload_n hx hb d_Reader_readUtf16Marked_103 rfl (lv_at hl 5 rfl) ?_
          refine lv_iconst (v := 1) hx hb d_Reader_readUtf16Marked_104 (by decide) ?_
          refine lv_aload hx hb d_Reader_readUtf16Marked_105 (lv_at hl 6 rfl) ?_
          refine g_Vv (As := [.ref a2, .int p2, .int p3, .int 1, .ref a1]) (rest := []) (wr := []) ⟨hx, hb, hml, hown, hts⟩ (c_Reader_readUtf16 l D Z kI a0 x0_bits a1 b1 n1 a2 b2 n2 H.size v0_firstHalf f1 l1 o1 f2 l2 o2 p2 p3 1 hr1 hr2 hpre0) (cw_Reader_readUtf16 hts k_424 ⟨Nat.le_of_ble_eq_true rfl, Nat.le_of_ble_eq_true rfl⟩) hK hZ hP hD hS hA [0, 1, 2, 3, 4] [] (g_recv hK hP (ci := 3) (q0 := 0) rfl rfl) rfl rfl (by decide) (by decide) (by decide) rfl hl.1 rfl (Nat.le_of_ble_eq_true rfl) d_Reader_readUtf16Marked_107 ⟨Nat.zero_le _, Nat.zero_le _⟩ (fun u_11 H locs hw hP hD hS => ?_)
          obtain ⟨v0_firstHalf_11, f1_11, l1_11, o1_11⟩ := u_11
          have e_11 := hw.1
          have hr1_11 := hw.2
          have hP : va_P D vwCl [(a0, .inr (3, [.ref x0_bits, .int v0_firstHalf_11])), (a1, .inr (4, [.ref b1, .int (nI l1_11.length), .int o1_11])), (b1, .inl (kI, n1, .inl f1_11)), (a2, .inr (4, [.ref b2, .int (nI l2.length), .int o2])), (b2, .inl (kI, n2, .inl f2))] H := hP
          have hD : va_D A [(a0, .inr (3, [.ref x0_bits, .int v0_firstHalf_11])), (a1, .inr (4, [.ref b1, .int (nI l1_11.length), .int o1_11])), (b1, .inl (kI, n1, .inl f1_11)), (a2, .inr (4, [.ref b2, .int (nI l2.length), .int o2])), (b2, .inl (kI, n2, .inl f2))] := hD
          rw [e_11] at hF; dsimp only at hF
          exact hret (v0_firstHalf_11, f1_11, l1_11, o1_11) _ _ _ _ d_Reader_readUtf16Marked_110 (⟨hRES.symm.trans hF, hr1_11⟩) hP hD hS
        · rw [if_pos c_10] at hF
          refine lv_iload hx hb d_Reader_readUtf16Marked_77 (lv_at hl 0 rfl) ?_
          refine lv_sipush (v := 254) hx hb d_Reader_readUtf16Marked_79 (by decide) ?_
          refine lv_icmp_ne (tgt := 100) hx hb d_Reader_readUtf16Marked_82 (by decide) (fun c_12 => ?_) (fun c_12 => ?_)
          · rw [if_neg c_12] at hF
            refine lv_aload_n hx hb d_Reader_readUtf16Marked_100 rfl (lv_at hl 2 rfl) ?_
            refine lv_aload_n hx hb d_Reader_readUtf16Marked_101 rfl (lv_at hl 3 rfl) ?_
            refine lv_iload_n hx hb d_Reader_readUtf16Marked_102 rfl (lv_at hl 4 rfl) ?_
            refine lv_iload_n hx hb d_Reader_readUtf16Marked_103 rfl (lv_at hl 5 rfl) ?_
            refine lv_iconst (v := 1) hx hb d_Reader_readUtf16Marked_104 (by decide) ?_
            refine lv_aload hx hb d_Reader_readUtf16Marked_105 (lv_at hl 6 rfl) ?_
            refine g_Vv (As := [.ref a2, .int p2, .int p3, .int 1, .ref a1]) (rest := []) (wr := []) ⟨hx, hb, hml, hown, hts⟩ (c_Reader_readUtf16 l D Z kI a0 x0_bits a1 b1 n1 a2 b2 n2 H.size v0_firstHalf f1 l1 o1 f2 l2 o2 p2 p3 1 hr1 hr2 hpre0) (cw_Reader_readUtf16 hts k_424 ⟨Nat.le_of_ble_eq_true rfl, Nat.le_of_ble_eq_true rfl⟩) hK hZ hP hD hS hA [0, 1, 2, 3, 4] [] (g_recv hK hP (ci := 3) (q0 := 0) rfl rfl) rfl rfl (by decide) (by decide) (by decide) rfl hl.1 rfl (Nat.le_of_ble_eq_true rfl) d_Reader_readUtf16Marked_107 ⟨Nat.zero_le _, Nat.zero_le _⟩ (fun u_13 H locs hw hP hD hS => ?_)
            obtain ⟨v0_firstHalf_13, f1_13, l1_13, o1_13⟩ := u_13
            have e_13 := hw.1
            have hr1_13 := hw.2
            have hP : va_P D vwCl [(a0, .inr (3, [.ref x0_bits, .int v0_firstHalf_13])), (a1, .inr (4, [.ref b1, .int (nI l1_13.length), .int o1_13])), (b1, .inl (kI, n1, .inl f1_13)), (a2, .inr (4, [.ref b2, .int (nI l2.length), .int o2])), (b2, .inl (kI, n2, .inl f2))] H := hP
            have hD : va_D A [(a0, .inr (3, [.ref x0_bits, .int v0_firstHalf_13])), (a1, .inr (4, [.ref b1, .int (nI l1_13.length), .int o1_13])), (b1, .inl (kI, n1, .inl f1_13)), (a2, .inr (4, [.ref b2, .int (nI l2.length), .int o2])), (b2, .inl (kI, n2, .inl f2))] := hD
            rw [e_13] at hF; dsimp only at hF
            exact hret (v0_firstHalf_13, f1_13, l1_13, o1_13) _ _ _ _ d_Reader_readUtf16Marked_110 (⟨hRES.symm.trans hF, hr1_13⟩) hP hD hS
          · rw [if_pos c_12] at hF
            refine lv_aload_n hx hb d_Reader_readUtf16Marked_85 rfl (lv_at hl 2 rfl) ?_
            refine lv_aload_n hx hb d_Reader_readUtf16Marked_86 rfl (lv_at hl 3 rfl) ?_
            refine lv_iload_n hx hb d_Reader_readUtf16Marked_87 rfl (lv_at hl 4 rfl) ?_
            refine lv_iconst (v := 2) hx hb d_Reader_readUtf16Marked_88 (by decide) ?_
            refine lv_iadd hx hb d_Reader_readUtf16Marked_89 ?_
            refine lv_iload_n hx hb d_Reader_readUtf16Marked_90 rfl (lv_at hl 5 rfl) ?_
            refine lv_iconst (v := 0) hx hb d_Reader_readUtf16Marked_91 (by decide) ?_
            refine lv_aload hx hb d_Reader_readUtf16Marked_92 (lv_at hl 6 rfl) ?_
            refine g_Vv (As := [.ref a2, .int (p2 + 2), .int p3, .int 0, .ref a1]) (rest := []) (wr := []) ⟨hx, hb, hml, hown, hts⟩ (c_Reader_readUtf16 l D Z kI a0 x0_bits a1 b1 n1 a2 b2 n2 H.size v0_firstHalf f1 l1 o1 f2 l2 o2 (p2 + 2) p3 0 hr1 hr2 hpre0) (cw_Reader_readUtf16 hts k_424 ⟨Nat.le_of_ble_eq_true rfl, Nat.le_of_ble_eq_true rfl⟩) hK hZ hP hD hS hA [0, 1, 2, 3, 4] [] (g_recv hK hP (ci := 3) (q0 := 0) rfl rfl) rfl rfl (by decide) (by decide) (by decide) rfl hl.1 rfl (Nat.le_of_ble_eq_true rfl) d_Reader_readUtf16Marked_94 ⟨Nat.zero_le _, Nat.zero_le _⟩ (fun u_14 H locs hw hP hD hS => ?_)
            obtain ⟨v0_firstHalf_14, f1_14, l1_14, o1_14⟩ := u_14
            have e_14 := hw.1
            have hr1_14 := hw.2
            have hP : va_P D vwCl [(a0, .inr (3, [.ref x0_bits, .int v0_firstHalf_14])), (a1, .inr (4, [.ref b1, .int (nI l1_14.length), .int o1_14])), (b1, .inl (kI, n1, .inl f1_14)), (a2, .inr (4, [.ref b2, .int (nI l2.length), .int o2])), (b2, .inl (kI, n2, .inl f2))] H := hP
            have hD : va_D A [(a0, .inr (3, [.ref x0_bits, .int v0_firstHalf_14])), (a1, .inr (4, [.ref b1, .int (nI l1_14.length), .int o1_14])), (b1, .inl (kI, n1, .inl f1_14)), (a2, .inr (4, [.ref b2, .int (nI l2.length), .int o2])), (b2, .inl (kI, n2, .inl f2))] := hD
            rw [e_14] at hF; dsimp only at hF
            refine lv_goto (tgt := 110) hx hb d_Reader_readUtf16Marked_97 (by decide) ?_
            exact hret (v0_firstHalf_14, f1_14, l1_14, o1_14) _ _ _ _ d_Reader_readUtf16Marked_110 (⟨hRES.symm.trans hF, hr1_14⟩) hP hD hS
      · rw [if_pos c_9] at hF
        refine lv_iload hx hb d_Reader_readUtf16Marked_46 (lv_at hl 0 rfl) ?_
        refine lv_sipush (v := 255) hx hb d_Reader_readUtf16Marked_48 (by decide) ?_
        refine lv_icmp_ne (tgt := 69) hx hb d_Reader_readUtf16Marked_51 (by decide) (fun c_15 => ?_) (fun c_15 => ?_)
        · rw [if_neg c_15] at hF
          refine lv_iload hx hb d_Reader_readUtf16Marked_69 (lv_at hl 1 rfl) ?_
          refine lv_sipush (v := 255) hx hb d_Reader_readUtf16Marked_71 (by decide) ?_
          refine lv_icmp_ne (tgt := 100) hx hb d_Reader_readUtf16Marked_74 (by decide) (fun c_16 => ?_) (fun c_16 => ?_)
          · rw [if_neg c_16] at hF
            refine lv_aload_n hx hb d_Reader_readUtf16Marked_100 rfl (lv_at hl 2 rfl) ?_
            refine lv_aload_n hx hb d_Reader_readUtf16Marked_101 rfl (lv_at hl 3 rfl) ?_
            refine lv_iload_n hx hb d_Reader_readUtf16Marked_102 rfl (lv_at hl 4 rfl) ?_
            refine lv_iload_n hx hb d_Reader_readUtf16Marked_103 rfl (lv_at hl 5 rfl) ?_
            refine lv_iconst (v := 1) hx hb d_Reader_readUtf16Marked_104 (by decide) ?_
            refine lv_aload hx hb d_Reader_readUtf16Marked_105 (lv_at hl 6 rfl) ?_
            refine g_Vv (As := [.ref a2, .int p2, .int p3, .int 1, .ref a1]) (rest := []) (wr := []) ⟨hx, hb, hml, hown, hts⟩ (c_Reader_readUtf16 l D Z kI a0 x0_bits a1 b1 n1 a2 b2 n2 H.size v0_firstHalf f1 l1 o1 f2 l2 o2 p2 p3 1 hr1 hr2 hpre0) (cw_Reader_readUtf16 hts k_424 ⟨Nat.le_of_ble_eq_true rfl, Nat.le_of_ble_eq_true rfl⟩) hK hZ hP hD hS hA [0, 1, 2, 3, 4] [] (g_recv hK hP (ci := 3) (q0 := 0) rfl rfl) rfl rfl (by decide) (by decide) (by decide) rfl hl.1 rfl (Nat.le_of_ble_eq_true rfl) d_Reader_readUtf16Marked_107 ⟨Nat.zero_le _, Nat.zero_le _⟩ (fun u_17 H locs hw hP hD hS => ?_)
            obtain ⟨v0_firstHalf_17, f1_17, l1_17, o1_17⟩ := u_17
            have e_17 := hw.1
            have hr1_17 := hw.2
            have hP : va_P D vwCl [(a0, .inr (3, [.ref x0_bits, .int v0_firstHalf_17])), (a1, .inr (4, [.ref b1, .int (nI l1_17.length), .int o1_17])), (b1, .inl (kI, n1, .inl f1_17)), (a2, .inr (4, [.ref b2, .int (nI l2.length), .int o2])), (b2, .inl (kI, n2, .inl f2))] H := hP
            have hD : va_D A [(a0, .inr (3, [.ref x0_bits, .int v0_firstHalf_17])), (a1, .inr (4, [.ref b1, .int (nI l1_17.length), .int o1_17])), (b1, .inl (kI, n1, .inl f1_17)), (a2, .inr (4, [.ref b2, .int (nI l2.length), .int o2])), (b2, .inl (kI, n2, .inl f2))] := hD
            rw [e_17] at hF; dsimp only at hF
            exact hret (v0_firstHalf_17, f1_17, l1_17, o1_17) _ _ _ _ d_Reader_readUtf16Marked_110 (⟨hRES.symm.trans hF, hr1_17⟩) hP hD hS
          · rw [if_pos c_16] at hF
            refine lv_iload hx hb d_Reader_readUtf16Marked_77 (lv_at hl 0 rfl) ?_
            refine lv_sipush (v := 254) hx hb d_Reader_readUtf16Marked_79 (by decide) ?_
            refine lv_icmp_ne (tgt := 100) hx hb d_Reader_readUtf16Marked_82 (by decide) (fun c_18 => ?_) (fun c_18 => ?_)
            · rw [if_neg c_18] at hF
              refine lv_aload_n hx hb d_Reader_readUtf16Marked_100 rfl (lv_at hl 2 rfl) ?_
              refine lv_aload_n hx hb d_Reader_readUtf16Marked_101 rfl (lv_at hl 3 rfl) ?_
              refine lv_iload_n hx hb d_Reader_readUtf16Marked_102 rfl (lv_at hl 4 rfl) ?_
              refine lv_iload_n hx hb d_Reader_readUtf16Marked_103 rfl (lv_at hl 5 rfl) ?_
              refine lv_iconst (v := 1) hx hb d_Reader_readUtf16Marked_104 (by decide) ?_
              refine lv_aload hx hb d_Reader_readUtf16Marked_105 (lv_at hl 6 rfl) ?_
              refine g_Vv (As := [.ref a2, .int p2, .int p3, .int 1, .ref a1]) (rest := []) (wr := []) ⟨hx, hb, hml, hown, hts⟩ (c_Reader_readUtf16 l D Z kI a0 x0_bits a1 b1 n1 a2 b2 n2 H.size v0_firstHalf f1 l1 o1 f2 l2 o2 p2 p3 1 hr1 hr2 hpre0) (cw_Reader_readUtf16 hts k_424 ⟨Nat.le_of_ble_eq_true rfl, Nat.le_of_ble_eq_true rfl⟩) hK hZ hP hD hS hA [0, 1, 2, 3, 4] [] (g_recv hK hP (ci := 3) (q0 := 0) rfl rfl) rfl rfl (by decide) (by decide) (by decide) rfl hl.1 rfl (Nat.le_of_ble_eq_true rfl) d_Reader_readUtf16Marked_107 ⟨Nat.zero_le _, Nat.zero_le _⟩ (fun u_19 H locs hw hP hD hS => ?_)
              obtain ⟨v0_firstHalf_19, f1_19, l1_19, o1_19⟩ := u_19
              have e_19 := hw.1
              have hr1_19 := hw.2
              have hP : va_P D vwCl [(a0, .inr (3, [.ref x0_bits, .int v0_firstHalf_19])), (a1, .inr (4, [.ref b1, .int (nI l1_19.length), .int o1_19])), (b1, .inl (kI, n1, .inl f1_19)), (a2, .inr (4, [.ref b2, .int (nI l2.length), .int o2])), (b2, .inl (kI, n2, .inl f2))] H := hP
              have hD : va_D A [(a0, .inr (3, [.ref x0_bits, .int v0_firstHalf_19])), (a1, .inr (4, [.ref b1, .int (nI l1_19.length), .int o1_19])), (b1, .inl (kI, n1, .inl f1_19)), (a2, .inr (4, [.ref b2, .int (nI l2.length), .int o2])), (b2, .inl (kI, n2, .inl f2))] := hD
              rw [e_19] at hF; dsimp only at hF
              exact hret (v0_firstHalf_19, f1_19, l1_19, o1_19) _ _ _ _ d_Reader_readUtf16Marked_110 (⟨hRES.symm.trans hF, hr1_19⟩) hP hD hS
            · rw [if_pos c_18] at hF
              refine lv_aload_n hx hb d_Reader_readUtf16Marked_85 rfl (lv_at hl 2 rfl) ?_
              refine lv_aload_n hx hb d_Reader_readUtf16Marked_86 rfl (lv_at hl 3 rfl) ?_
              refine lv_iload_n hx hb d_Reader_readUtf16Marked_87 rfl (lv_at hl 4 rfl) ?_
              refine lv_iconst (v := 2) hx hb d_Reader_readUtf16Marked_88 (by decide) ?_
              refine lv_iadd hx hb d_Reader_readUtf16Marked_89 ?_
              refine lv_iload_n hx hb d_Reader_readUtf16Marked_90 rfl (lv_at hl 5 rfl) ?_
              refine lv_iconst (v := 0) hx hb d_Reader_readUtf16Marked_91 (by decide) ?_
              refine lv_aload hx hb d_Reader_readUtf16Marked_92 (lv_at hl 6 rfl) ?_
              refine g_Vv (As := [.ref a2, .int (p2 + 2), .int p3, .int 0, .ref a1]) (rest := []) (wr := []) ⟨hx, hb, hml, hown, hts⟩ (c_Reader_readUtf16 l D Z kI a0 x0_bits a1 b1 n1 a2 b2 n2 H.size v0_firstHalf f1 l1 o1 f2 l2 o2 (p2 + 2) p3 0 hr1 hr2 hpre0) (cw_Reader_readUtf16 hts k_424 ⟨Nat.le_of_ble_eq_true rfl, Nat.le_of_ble_eq_true rfl⟩) hK hZ hP hD hS hA [0, 1, 2, 3, 4] [] (g_recv hK hP (ci := 3) (q0 := 0) rfl rfl) rfl rfl (by decide) (by decide) (by decide) rfl hl.1 rfl (Nat.le_of_ble_eq_true rfl) d_Reader_readUtf16Marked_94 ⟨Nat.zero_le _, Nat.zero_le _⟩ (fun u_20 H locs hw hP hD hS => ?_)
              obtain ⟨v0_firstHalf_20, f1_20, l1_20, o1_20⟩ := u_20
              have e_20 := hw.1
              have hr1_20 := hw.2
              have hP : va_P D vwCl [(a0, .inr (3, [.ref x0_bits, .int v0_firstHalf_20])), (a1, .inr (4, [.ref b1, .int (nI l1_20.length), .int o1_20])), (b1, .inl (kI, n1, .inl f1_20)), (a2, .inr (4, [.ref b2, .int (nI l2.length), .int o2])), (b2, .inl (kI, n2, .inl f2))] H := hP
              have hD : va_D A [(a0, .inr (3, [.ref x0_bits, .int v0_firstHalf_20])), (a1, .inr (4, [.ref b1, .int (nI l1_20.length), .int o1_20])), (b1, .inl (kI, n1, .inl f1_20)), (a2, .inr (4, [.ref b2, .int (nI l2.length), .int o2])), (b2, .inl (kI, n2, .inl f2))] := hD
              rw [e_20] at hF; dsimp only at hF
              refine lv_goto (tgt := 110) hx hb d_Reader_readUtf16Marked_97 (by decide) ?_
              exact hret (v0_firstHalf_20, f1_20, l1_20, o1_20) _ _ _ _ d_Reader_readUtf16Marked_110 (⟨hRES.symm.trans hF, hr1_20⟩) hP hD hS
        · rw [if_pos c_15] at hF
          refine lv_aload_n hx hb d_Reader_readUtf16Marked_54 rfl (lv_at hl 2 rfl) ?_
          refine lv_aload_n hx hb d_Reader_readUtf16Marked_55 rfl (lv_at hl 3 rfl) ?_
          refine lv_iload_n hx hb d_Reader_readUtf16Marked_56 rfl (lv_at hl 4 rfl) ?_
          refine lv_iconst (v := 2) hx hb d_Reader_readUtf16Marked_57 (by decide) ?_
          refine lv_iadd hx hb d_Reader_readUtf16Marked_58 ?_
          refine lv_iload_n hx hb d_Reader_readUtf16Marked_59 rfl (lv_at hl 5 rfl) ?_
          refine lv_iconst (v := 1) hx hb d_Reader_readUtf16Marked_60 (by decide) ?_
          refine lv_aload hx hb d_Reader_readUtf16Marked_61 (lv_at hl 6 rfl) ?_
          refine g_Vv (As := [.ref a2, .int (p2 + 2), .int p3, .int 1, .ref a1]) (rest := []) (wr := []) ⟨hx, hb, hml, hown, hts⟩ (c_Reader_readUtf16 l D Z kI a0 x0_bits a1 b1 n1 a2 b2 n2 H.size v0_firstHalf f1 l1 o1 f2 l2 o2 (p2 + 2) p3 1 hr1 hr2 hpre0) (cw_Reader_readUtf16 hts k_424 ⟨Nat.le_of_ble_eq_true rfl, Nat.le_of_ble_eq_true rfl⟩) hK hZ hP hD hS hA [0, 1, 2, 3, 4] [] (g_recv hK hP (ci := 3) (q0 := 0) rfl rfl) rfl rfl (by decide) (by decide) (by decide) rfl hl.1 rfl (Nat.le_of_ble_eq_true rfl) d_Reader_readUtf16Marked_63 ⟨Nat.zero_le _, Nat.zero_le _⟩ (fun u_21 H locs hw hP hD hS => ?_)
          obtain ⟨v0_firstHalf_21, f1_21, l1_21, o1_21⟩ := u_21
          have e_21 := hw.1
          have hr1_21 := hw.2
          have hP : va_P D vwCl [(a0, .inr (3, [.ref x0_bits, .int v0_firstHalf_21])), (a1, .inr (4, [.ref b1, .int (nI l1_21.length), .int o1_21])), (b1, .inl (kI, n1, .inl f1_21)), (a2, .inr (4, [.ref b2, .int (nI l2.length), .int o2])), (b2, .inl (kI, n2, .inl f2))] H := hP
          have hD : va_D A [(a0, .inr (3, [.ref x0_bits, .int v0_firstHalf_21])), (a1, .inr (4, [.ref b1, .int (nI l1_21.length), .int o1_21])), (b1, .inl (kI, n1, .inl f1_21)), (a2, .inr (4, [.ref b2, .int (nI l2.length), .int o2])), (b2, .inl (kI, n2, .inl f2))] := hD
          rw [e_21] at hF; dsimp only at hF
          refine lv_goto (tgt := 110) hx hb d_Reader_readUtf16Marked_66 (by decide) ?_
          exact hret (v0_firstHalf_21, f1_21, l1_21, o1_21) _ _ _ _ d_Reader_readUtf16Marked_110 (⟨hRES.symm.trans hF, hr1_21⟩) hP hD hS
theorem cw_Reader_readUtf16Marked {R : Room} {s : State} {args : Array Value} {own : String} {idx : Nat} (hts : ∀ w ∈ gW, w.before args s = true) (hl : Cond.methodLink own idx y_Reader_readUtf16Marked ∈ gW) (hR : rm_Reader_readUtf16Marked.frames + 1 ≤ R.frames ∧ 8 + (7 + 11) + rm_Reader_readUtf16Marked.locals ≤ R.locals) : CallW R s args own "MailCharacters$Reader" idx y_Reader_readUtf16Marked b_Reader_readUtf16Marked 7 none w_Reader_readUtf16Marked rm_Reader_readUtf16Marked 0 0 4 := cwV 4 hts (gW_V hl k_422 k_2 k_74 k_423) rfl rfl rfl (by decide +kernel) hR
def m_Uncoder_uncodeInto (n4 : Nat) (l0 : List Int32) (v2_from : Int32) (v2_to : Int32) (v2_ended : Int32) (v2_next : Int32) (v3_value : Int32) (v3_held : Int32) (l4 : List Int32) (o4 : Int32) (p2 : Int32) : Int32 × Int32 × Int32 × Int32 × Int32 × Int32 × List Int32 × Int32 :=
  if p2 = 1 then
    match (m_Uncoder_unbase n4 l0 l4 o4 0 (m_Row_size l0)) with
    | (v2_value_6, v2_held_6, l3_6, o3_6) =>
      (v2_from, v2_to, v2_ended, v2_next, v2_value_6, v2_held_6, l3_6, o3_6)
  else
    if p2 = 2 then
      match (m_Uncoder_unquoteLines n4 l0 v2_from v2_to v2_ended l4 o4) with
      | (v2_from_4, v2_to_4, v2_ended_4, v2_next_4, l4_4, o4_4) =>
        (v2_from_4, v2_to_4, v2_ended_4, v2_next_4, v3_value, v3_held, l4_4, o4_4)
    else
      match (m_Uncoder_unhexLines n4 l0 v2_from v2_to v2_ended v3_value v3_held l4 o4) with
      | (v2_from_3, v2_to_3, v2_ended_3, v2_next_3, v3_value_3, v3_held_3, l4_3, o4_3) =>
        (v2_from_3, v2_to_3, v2_ended_3, v2_next_3, v3_value_3, v3_held_3, l4_3, o4_3)
def rm_Uncoder_uncodeInto : Room := { frames := 7, cells := 0, slots := 0, locals := 153 }
set_option maxHeartbeats 4000000 in
set_option maxRecDepth 100000 in
theorem c_Uncoder_uncodeInto (l : Launch) (D : va_G) (Z : gZT) (kI : ClassId) (a0 : Nat) (b0 : Nat) (n0 : Nat) (a1 : Nat) (a2 : Nat) (a3 : Nat) (a4 : Nat) (b4 : Nat) (n4 : Nat) (sz : Nat) (f0 : Nat → Int32) (l0 : List Int32) (o0 : Int32) (v2_from : Int32) (v2_to : Int32) (v2_ended : Int32) (v2_next : Int32) (v3_value : Int32) (v3_held : Int32) (f4 : Nat → Int32) (l4 : List Int32) (o4 : Int32) (p2 : Int32) (hr0 : g_rw n0 f0 l0) (hr4 : g_rw n4 f4 l4) : gMv l y_Uncoder_uncodeInto w_Uncoder_uncodeInto rm_Uncoder_uncodeInto D Z kI [.ref a1, .ref a0, .int p2, .ref a4] sz [(a0, .inr (4, [.ref b0, .int (nI l0.length), .int o0])), (b0, .inl (kI, n0, .inl f0)), (a1, .inr (5, [.ref a3, .ref a2])), (a2, .inr (2, [.int v2_from, .int v2_to, .int v2_ended, .int v2_next])), (a3, .inr (0, [.int v3_value, .int v3_held])), (a4, .inr (4, [.ref b4, .int (nI l4.length), .int o4])), (b4, .inl (kI, n4, .inl f4))] (fun (u : Int32 × Int32 × Int32 × Int32 × Int32 × Int32 × (Nat → Int32) × List Int32 × Int32) => m_Uncoder_uncodeInto n4 l0 v2_from v2_to v2_ended v2_next v3_value v3_held l4 o4 p2 = (u.1, u.2.1, u.2.2.1, u.2.2.2.1, u.2.2.2.2.1, u.2.2.2.2.2.1, u.2.2.2.2.2.2.2.1, u.2.2.2.2.2.2.2.2) ∧ g_rw n4 u.2.2.2.2.2.2.1 u.2.2.2.2.2.2.2.1) (fun (u : Int32 × Int32 × Int32 × Int32 × Int32 × Int32 × (Nat → Int32) × List Int32 × Int32) => ([(a0, .inr (4, [.ref b0, .int (nI l0.length), .int o0])), (b0, .inl (kI, n0, .inl f0)), (a1, .inr (5, [.ref a3, .ref a2])), (a2, .inr (2, [.int u.1, .int u.2.1, .int u.2.2.1, .int u.2.2.2.1])), (a3, .inr (0, [.int u.2.2.2.2.1, .int u.2.2.2.2.2.1])), (a4, .inr (4, [.ref b4, .int (nI u.2.2.2.2.2.2.2.1.length), .int u.2.2.2.2.2.2.2.2])), (b4, .inl (kI, n4, .inl u.2.2.2.2.2.2.1))] : va_W)) := by
  refine g_ofv (cc := b_Uncoder_uncodeInto) (maxL := 4) (by decide) rfl (Nat.le_of_ble_eq_true rfl) ?_
  intro p e s m below meth c A Q H ls hx hb hml hown hts hA hK hZ hP hD hS hl hret
  have hown : s.vm.findClass "MailCharacters$Uncoder" = some m.cls := hown
  have hl : lv_has ls 4 [(0, .ref a1), (1, .ref a0), (2, .int p2), (3, .ref a4)] := hl
  obtain ⟨RES, hRES⟩ : ∃ z, z = m_Uncoder_uncodeInto n4 l0 v2_from v2_to v2_ended v2_next v3_value v3_held l4 o4 p2 := ⟨_, rfl⟩
  have hF := hRES
  rw [m_Uncoder_uncodeInto] at hF
  refine lv_iload_n hx hb d_Uncoder_uncodeInto_0 rfl (lv_at hl 2 rfl) ?_
  refine lv_iconst (v := 1) hx hb d_Uncoder_uncodeInto_1 (by decide) ?_
  refine lv_icmp_ne (tgt := 19) hx hb d_Uncoder_uncodeInto_2 (by decide) (fun c_1 => ?_) (fun c_1 => ?_)
  · rw [if_neg c_1] at hF
    refine lv_iload_n hx hb d_Uncoder_uncodeInto_19 rfl (lv_at hl 2 rfl) ?_
    refine lv_iconst (v := 2) hx hb d_Uncoder_uncodeInto_20 (by decide) ?_
    refine lv_icmp_ne (tgt := 33) hx hb d_Uncoder_uncodeInto_21 (by decide) (fun c_2 => ?_) (fun c_2 => ?_)
    · rw [if_neg c_2] at hF
      refine lv_aload_n hx hb d_Uncoder_uncodeInto_33 rfl (lv_at hl 0 rfl) ?_
      refine lv_aload_n hx hb d_Uncoder_uncodeInto_34 rfl (lv_at hl 1 rfl) ?_
      refine lv_aload_n hx hb d_Uncoder_uncodeInto_35 rfl (lv_at hl 3 rfl) ?_
      refine g_Vv (As := [.ref a0, .ref a4]) (rest := []) (wr := []) ⟨hx, hb, hml, hown, hts⟩ (c_Uncoder_unhexLines l D Z kI a0 b0 n0 a1 a2 a3 a4 b4 n4 H.size f0 l0 o0 v2_from v2_to v2_ended v2_next v3_value v3_held f4 l4 o4 hr0 hr4) (cw_Uncoder_unhexLines hts k_629 ⟨Nat.le_of_ble_eq_true rfl, Nat.le_of_ble_eq_true rfl⟩) hK hZ hP hD hS hA [0, 1, 2, 3, 4, 5, 6] [] (g_recv hK hP (ci := 5) (q0 := 2) rfl rfl) rfl rfl (by decide) (by decide) (by decide) rfl hl.1 rfl (Nat.le_of_ble_eq_true rfl) d_Uncoder_uncodeInto_36 ⟨Nat.zero_le _, Nat.zero_le _⟩ (fun u_3 H locs hw hP hD hS => ?_)
      obtain ⟨v2_from_3, v2_to_3, v2_ended_3, v2_next_3, v3_value_3, v3_held_3, f4_3, l4_3, o4_3⟩ := u_3
      have e_3 := hw.1
      have hr4_3 := hw.2
      have hP : va_P D vwCl [(a0, .inr (4, [.ref b0, .int (nI l0.length), .int o0])), (b0, .inl (kI, n0, .inl f0)), (a1, .inr (5, [.ref a3, .ref a2])), (a2, .inr (2, [.int v2_from_3, .int v2_to_3, .int v2_ended_3, .int v2_next_3])), (a3, .inr (0, [.int v3_value_3, .int v3_held_3])), (a4, .inr (4, [.ref b4, .int (nI l4_3.length), .int o4_3])), (b4, .inl (kI, n4, .inl f4_3))] H := hP
      have hD : va_D A [(a0, .inr (4, [.ref b0, .int (nI l0.length), .int o0])), (b0, .inl (kI, n0, .inl f0)), (a1, .inr (5, [.ref a3, .ref a2])), (a2, .inr (2, [.int v2_from_3, .int v2_to_3, .int v2_ended_3, .int v2_next_3])), (a3, .inr (0, [.int v3_value_3, .int v3_held_3])), (a4, .inr (4, [.ref b4, .int (nI l4_3.length), .int o4_3])), (b4, .inl (kI, n4, .inl f4_3))] := hD
      rw [e_3] at hF; dsimp only at hF
      exact hret (v2_from_3, v2_to_3, v2_ended_3, v2_next_3, v3_value_3, v3_held_3, f4_3, l4_3, o4_3) _ _ _ _ d_Uncoder_uncodeInto_39 (⟨hRES.symm.trans hF, hr4_3⟩) hP hD hS
    · rw [if_pos c_2] at hF
      refine lv_aload_n hx hb d_Uncoder_uncodeInto_24 rfl (lv_at hl 0 rfl) ?_
      refine lv_aload_n hx hb d_Uncoder_uncodeInto_25 rfl (lv_at hl 1 rfl) ?_
      refine lv_aload_n hx hb d_Uncoder_uncodeInto_26 rfl (lv_at hl 3 rfl) ?_
      refine g_Vv (As := [.ref a0, .ref a4]) (rest := []) (wr := [(a3, .inr (0, [.int v3_value, .int v3_held]))]) ⟨hx, hb, hml, hown, hts⟩ (c_Uncoder_unquoteLines l D Z kI a0 b0 n0 a1 a3 a2 a4 b4 n4 H.size f0 l0 o0 v2_from v2_to v2_ended v2_next f4 l4 o4 hr0 hr4) (cw_Uncoder_unquoteLines hts k_612 ⟨Nat.le_of_ble_eq_true rfl, Nat.le_of_ble_eq_true rfl⟩) hK hZ hP hD hS hA [0, 1, 2, 3, 5, 6] [4] (g_recv hK hP (ci := 5) (q0 := 2) rfl rfl) rfl rfl (by decide) (by decide) (by decide) rfl hl.1 rfl (Nat.le_of_ble_eq_true rfl) d_Uncoder_uncodeInto_27 ⟨Nat.zero_le _, Nat.zero_le _⟩ (fun u_4 H locs hw hP hD hS => ?_)
      obtain ⟨v2_from_4, v2_to_4, v2_ended_4, v2_next_4, f4_4, l4_4, o4_4⟩ := u_4
      have e_4 := hw.1
      have hr4_4 := hw.2
      have hP : va_P D vwCl [(a3, .inr (0, [.int v3_value, .int v3_held])), (a0, .inr (4, [.ref b0, .int (nI l0.length), .int o0])), (b0, .inl (kI, n0, .inl f0)), (a1, .inr (5, [.ref a3, .ref a2])), (a2, .inr (2, [.int v2_from_4, .int v2_to_4, .int v2_ended_4, .int v2_next_4])), (a4, .inr (4, [.ref b4, .int (nI l4_4.length), .int o4_4])), (b4, .inl (kI, n4, .inl f4_4))] H := hP
      have hD : va_D A [(a3, .inr (0, [.int v3_value, .int v3_held])), (a0, .inr (4, [.ref b0, .int (nI l0.length), .int o0])), (b0, .inl (kI, n0, .inl f0)), (a1, .inr (5, [.ref a3, .ref a2])), (a2, .inr (2, [.int v2_from_4, .int v2_to_4, .int v2_ended_4, .int v2_next_4])), (a4, .inr (4, [.ref b4, .int (nI l4_4.length), .int o4_4])), (b4, .inl (kI, n4, .inl f4_4))] := hD
      rw [e_4] at hF; dsimp only at hF
      refine lv_goto (tgt := 39) hx hb d_Uncoder_uncodeInto_30 (by decide) ?_
      exact hret (v2_from_4, v2_to_4, v2_ended_4, v2_next_4, v3_value, v3_held, f4_4, l4_4, o4_4) _ _ _ _ d_Uncoder_uncodeInto_39 (⟨hRES.symm.trans hF, hr4_4⟩) (hP.sub [1, 2, 3, 4, 0, 5, 6] rfl) (hD.sub [1, 2, 3, 4, 0, 5, 6] (by decide) rfl) hS
  · rw [if_pos c_1] at hF
    refine lv_aload_n hx hb d_Uncoder_uncodeInto_5 rfl (lv_at hl 0 rfl) ?_
    refine lv_aload_n hx hb d_Uncoder_uncodeInto_6 rfl (lv_at hl 1 rfl) ?_
    refine lv_iconst (v := 0) hx hb d_Uncoder_uncodeInto_7 (by decide) ?_
    refine lv_aload_n hx hb d_Uncoder_uncodeInto_8 rfl (lv_at hl 1 rfl) ?_
    refine g_Vi (As := []) (rest := [.int 0, .ref a0, .ref a1]) (wr := [(a1, .inr (5, [.ref a3, .ref a2])), (a2, .inr (2, [.int v2_from, .int v2_to, .int v2_ended, .int v2_next])), (a3, .inr (0, [.int v3_value, .int v3_held])), (a4, .inr (4, [.ref b4, .int (nI l4.length), .int o4])), (b4, .inl (kI, n4, .inl f4))]) ⟨hx, hb, hml, hown, hts⟩ (c_Row_size l D Z kI a0 b0 n0 H.size f0 l0 o0 hr0) (cw_Row_size hts k_611 ⟨Nat.le_of_ble_eq_true rfl, Nat.le_of_ble_eq_true rfl⟩) hK hZ hP hD hS hA [0, 1] [2, 3, 4, 5, 6] (g_recv hK hP (ci := 4) (q0 := 0) rfl rfl) rfl rfl (by decide) (by decide) (by decide) rfl hl.1 rfl (Nat.le_of_ble_eq_true rfl) d_Uncoder_uncodeInto_9 ⟨Nat.zero_le _, Nat.zero_le _⟩ (fun r_5 u_5 H locs hw hP hD hS => ?_)
    have e_5 := hw
    subst e_5
    have hP : va_P D vwCl [(a1, .inr (5, [.ref a3, .ref a2])), (a2, .inr (2, [.int v2_from, .int v2_to, .int v2_ended, .int v2_next])), (a3, .inr (0, [.int v3_value, .int v3_held])), (a4, .inr (4, [.ref b4, .int (nI l4.length), .int o4])), (b4, .inl (kI, n4, .inl f4)), (a0, .inr (4, [.ref b0, .int (nI l0.length), .int o0])), (b0, .inl (kI, n0, .inl f0))] H := hP
    have hD : va_D A [(a1, .inr (5, [.ref a3, .ref a2])), (a2, .inr (2, [.int v2_from, .int v2_to, .int v2_ended, .int v2_next])), (a3, .inr (0, [.int v3_value, .int v3_held])), (a4, .inr (4, [.ref b4, .int (nI l4.length), .int o4])), (b4, .inl (kI, n4, .inl f4)), (a0, .inr (4, [.ref b0, .int (nI l0.length), .int o0])), (b0, .inl (kI, n0, .inl f0))] := hD
    refine lv_aload_n hx hb d_Uncoder_uncodeInto_12 rfl (lv_at hl 3 rfl) ?_
    refine g_Vv (As := [.ref a0, .int 0, .int (m_Row_size l0), .ref a4]) (rest := []) (wr := [(a2, .inr (2, [.int v2_from, .int v2_to, .int v2_ended, .int v2_next]))]) ⟨hx, hb, hml, hown, hts⟩ (c_Uncoder_unbase l D Z kI a0 b0 n0 a1 a2 a3 a4 b4 n4 H.size f0 l0 o0 v3_value v3_held f4 l4 o4 0 (m_Row_size l0) hr0 hr4) (cw_Uncoder_unbase hts k_498 ⟨Nat.le_of_ble_eq_true rfl, Nat.le_of_ble_eq_true rfl⟩) hK hZ hP hD hS hA [5, 6, 0, 2, 3, 4] [1] (g_recv hK hP (ci := 5) (q0 := 0) rfl rfl) rfl rfl (by decide) (by decide) (by decide) rfl hl.1 rfl (Nat.le_of_ble_eq_true rfl) d_Uncoder_uncodeInto_13 ⟨Nat.zero_le _, Nat.zero_le _⟩ (fun u_6 H locs hw hP hD hS => ?_)
    obtain ⟨v2_value_6, v2_held_6, f3_6, l3_6, o3_6⟩ := u_6
    have e_6 := hw.1
    have hr3_6 := hw.2
    have hP : va_P D vwCl [(a2, .inr (2, [.int v2_from, .int v2_to, .int v2_ended, .int v2_next])), (a0, .inr (4, [.ref b0, .int (nI l0.length), .int o0])), (b0, .inl (kI, n0, .inl f0)), (a1, .inr (5, [.ref a3, .ref a2])), (a3, .inr (0, [.int v2_value_6, .int v2_held_6])), (a4, .inr (4, [.ref b4, .int (nI l3_6.length), .int o3_6])), (b4, .inl (kI, n4, .inl f3_6))] H := hP
    have hD : va_D A [(a2, .inr (2, [.int v2_from, .int v2_to, .int v2_ended, .int v2_next])), (a0, .inr (4, [.ref b0, .int (nI l0.length), .int o0])), (b0, .inl (kI, n0, .inl f0)), (a1, .inr (5, [.ref a3, .ref a2])), (a3, .inr (0, [.int v2_value_6, .int v2_held_6])), (a4, .inr (4, [.ref b4, .int (nI l3_6.length), .int o3_6])), (b4, .inl (kI, n4, .inl f3_6))] := hD
    rw [e_6] at hF; dsimp only at hF
    refine lv_goto (tgt := 39) hx hb d_Uncoder_uncodeInto_16 (by decide) ?_
    exact hret (v2_from, v2_to, v2_ended, v2_next, v2_value_6, v2_held_6, f3_6, l3_6, o3_6) _ _ _ _ d_Uncoder_uncodeInto_39 (⟨hRES.symm.trans hF, hr3_6⟩) (hP.sub [1, 2, 3, 0, 4, 5, 6] rfl) (hD.sub [1, 2, 3, 0, 4, 5, 6] (by decide) rfl) hS
theorem cw_Uncoder_uncodeInto {R : Room} {s : State} {args : Array Value} {own : String} {idx : Nat} (hts : ∀ w ∈ gW, w.before args s = true) (hl : Cond.methodLink own idx y_Uncoder_uncodeInto ∈ gW) (hR : rm_Uncoder_uncodeInto.frames + 1 ≤ R.frames ∧ 8 + (4 + 11) + rm_Uncoder_uncodeInto.locals ≤ R.locals) : CallW R s args own "MailCharacters$Uncoder" idx y_Uncoder_uncodeInto b_Uncoder_uncodeInto 4 none w_Uncoder_uncodeInto rm_Uncoder_uncodeInto 0 0 3 := cwV 3 hts (gW_V hl k_608 k_609 k_70 k_610) rfl rfl rfl (by decide +kernel) hR
def m_Writer_writeUtf7_l5 (n1 : Nat) : Nat → Int32 → Int32 → List Int32 → List Int32 → Int32 → Int32 → Int32 → List Int32 × Int32 × Int32 × Int32
  | 0, _, _, _, l1, o1, v3_value, v3_held => (l1, o1, v3_value, v3_held)
  | nf5 + 1, i3, i4, l0, l1, o1, v3_value, v3_held =>
    if (m_Row_size l0) ≤ i4 then
      (l1, o1, v3_value, v3_held)
    else
      if i3 ≤ i4 then
        if (m_Writer_endOfRun l0 i4) ≤ i4 then
          if (m_Writer_directWidthOf (m_Row_get l0 i4)) ≤ (m_Row_room n1 l1) then
            match (m_Writer_writeDirectly n1 l1 o1 (m_Row_get l0 i4)) with
            | (l3_13, o3_13) =>
              m_Writer_writeUtf7_l5 n1 nf5 (m_Writer_endOfRun l0 i4) (i4 + 1) l0 l3_13 o3_13 v3_value v3_held
          else
            (l1, o1, v3_value, v3_held)
        else
          if (m_Writer_widthOfRun l0 i4 (m_Writer_endOfRun l0 i4)) ≤ (m_Row_room n1 l1) then
            match (m_Writer_writeRun n1 l1 o1 l0 i4 (m_Writer_endOfRun l0 i4)) with
            | (v1_value_19, v1_held_19, l2_19, o2_19) =>
              m_Writer_writeUtf7_l5 n1 nf5 (m_Writer_endOfRun l0 i4) (i4 + 1) l0 l2_19 o2_19 v1_value_19 v1_held_19
          else
            (l1, o1, v3_value, v3_held)
      else
        m_Writer_writeUtf7_l5 n1 nf5 i3 (i4 + 1) l0 l1 o1 v3_value v3_held
def m_Writer_writeUtf7 (n1 : Nat) (l0 : List Int32) (l1 : List Int32) (o1 : Int32) (v3_value : Int32) (v3_held : Int32) : List Int32 × Int32 × Int32 × Int32 :=
  m_Writer_writeUtf7_l5 n1 (((m_Row_size l0).toInt - (0 : Int32).toInt).toNat + 1) 0 0 l0 l1 o1 v3_value v3_held
def rm_Writer_writeUtf7 : Room := { frames := 3, cells := 0, slots := 0, locals := 70 }
set_option maxHeartbeats 4000000 in
set_option maxRecDepth 100000 in
theorem c_Writer_writeUtf7 (l : Launch) (D : va_G) (Z : gZT) (kI : ClassId) (a0 : Nat) (b0 : Nat) (n0 : Nat) (a1 : Nat) (b1 : Nat) (n1 : Nat) (a2 : Nat) (a3 : Nat) (sz : Nat) (f0 : Nat → Int32) (l0 : List Int32) (o0 : Int32) (f1 : Nat → Int32) (l1 : List Int32) (o1 : Int32) (v3_value : Int32) (v3_held : Int32) (hr0 : g_rw n0 f0 l0) (hr1 : g_rw n1 f1 l1) : gMv l y_Writer_writeUtf7 w_Writer_writeUtf7 rm_Writer_writeUtf7 D Z kI [.ref a2, .ref a0, .ref a1] sz [(a0, .inr (4, [.ref b0, .int (nI l0.length), .int o0])), (b0, .inl (kI, n0, .inl f0)), (a1, .inr (4, [.ref b1, .int (nI l1.length), .int o1])), (b1, .inl (kI, n1, .inl f1)), (a2, .inr (7, [.ref a3])), (a3, .inr (0, [.int v3_value, .int v3_held]))] (fun (u : (Nat → Int32) × List Int32 × Int32 × Int32 × Int32) => m_Writer_writeUtf7 n1 l0 l1 o1 v3_value v3_held = (u.2.1, u.2.2.1, u.2.2.2.1, u.2.2.2.2) ∧ g_rw n1 u.1 u.2.1) (fun (u : (Nat → Int32) × List Int32 × Int32 × Int32 × Int32) => ([(a0, .inr (4, [.ref b0, .int (nI l0.length), .int o0])), (b0, .inl (kI, n0, .inl f0)), (a1, .inr (4, [.ref b1, .int (nI u.2.1.length), .int u.2.2.1])), (b1, .inl (kI, n1, .inl u.1)), (a2, .inr (7, [.ref a3])), (a3, .inr (0, [.int u.2.2.2.1, .int u.2.2.2.2]))] : va_W)) := by
  refine g_ofv (cc := b_Writer_writeUtf7) (maxL := 7) (by decide) rfl (Nat.le_of_ble_eq_true rfl) ?_
  intro p e s m below meth c A Q H ls hx hb hml hown hts hA hK hZ hP hD hS hl hret
  have hown : s.vm.findClass "MailCharacters$Writer" = some m.cls := hown
  have hl : lv_has ls 7 [(0, .ref a2), (1, .ref a0), (2, .ref a1)] := hl
  obtain ⟨RES, hRES⟩ : ∃ z, z = m_Writer_writeUtf7 n1 l0 l1 o1 v3_value v3_held := ⟨_, rfl⟩
  have lp5 : ∀ (nf5 : Nat) (i3 : Int32) (i4 : Int32) (f1 : Nat → Int32) (l1 : List Int32) (o1 : Int32) (v3_value : Int32) (v3_held : Int32) (hr1 : g_rw n1 f1 l1) (H : Heap) (locs : List Loc) (ls : Array Slot), ((m_Row_size l0).toInt - i4.toInt).toNat < nf5 → RES = m_Writer_writeUtf7_l5 n1 nf5 i3 i4 l0 l1 o1 v3_value v3_held → va_P D vwCl [(a0, .inr (4, [.ref b0, .int (nI l0.length), .int o0])), (b0, .inl (kI, n0, .inl f0)), (a1, .inr (4, [.ref b1, .int (nI l1.length), .int o1])), (b1, .inl (kI, n1, .inl f1)), (a2, .inr (7, [.ref a3])), (a3, .inr (0, [.int v3_value, .int v3_held]))] H → va_D A [(a0, .inr (4, [.ref b0, .int (nI l0.length), .int o0])), (b0, .inl (kI, n0, .inl f0)), (a1, .inr (4, [.ref b1, .int (nI l1.length), .int o1])), (b1, .inl (kI, n1, .inl f1)), (a2, .inr (7, [.ref a3])), (a3, .inr (0, [.int v3_value, .int v3_held]))] → va_S A s.heap H locs → lv_has ls 7 [(0, .ref a2), (1, .ref a0), (2, .ref a1), (3, .int i3), (4, .int i4)] → W p l e rm_Writer_writeUtf7 s m ([.ref a2, .ref a0, .ref a1] : List Value).toArray below meth c H locs 0 0 Q (F0 m 5 ls []) := by
    intro nf5
    induction nf5 with
    | zero => intro i3 i4 f1 l1 o1 v3_value v3_held hr1 H locs ls hn5; exact absurd hn5 (Nat.not_lt_zero _)
    | succ nf5 ih5 =>
      intro i3 i4 f1 l1 o1 v3_value v3_held hr1 H locs ls hn5 hF hP hD hS hl
      rw [m_Writer_writeUtf7_l5] at hF
      refine lv_iload hx hb d_Writer_writeUtf7_5 (lv_at hl 4 rfl) ?_
      refine lv_aload_n hx hb d_Writer_writeUtf7_7 rfl (lv_at hl 1 rfl) ?_
      refine g_Vi (As := []) (rest := [.int i4]) (wr := [(a1, .inr (4, [.ref b1, .int (nI l1.length), .int o1])), (b1, .inl (kI, n1, .inl f1)), (a2, .inr (7, [.ref a3])), (a3, .inr (0, [.int v3_value, .int v3_held]))]) ⟨hx, hb, hml, hown, hts⟩ (c_Row_size l D Z kI a0 b0 n0 H.size f0 l0 o0 hr0) (cw_Row_size hts k_687 ⟨Nat.le_of_ble_eq_true rfl, Nat.le_of_ble_eq_true rfl⟩) hK hZ hP hD hS hA [0, 1] [2, 3, 4, 5] (g_recv hK hP (ci := 4) (q0 := 0) rfl rfl) rfl rfl (by decide) (by decide) (by decide) rfl hl.1 rfl (Nat.le_of_ble_eq_true rfl) d_Writer_writeUtf7_8 ⟨Nat.zero_le _, Nat.zero_le _⟩ (fun r_2 u_2 H locs hw hP hD hS => ?_)
      have e_2 := hw
      subst e_2
      have hP : va_P D vwCl [(a1, .inr (4, [.ref b1, .int (nI l1.length), .int o1])), (b1, .inl (kI, n1, .inl f1)), (a2, .inr (7, [.ref a3])), (a3, .inr (0, [.int v3_value, .int v3_held])), (a0, .inr (4, [.ref b0, .int (nI l0.length), .int o0])), (b0, .inl (kI, n0, .inl f0))] H := hP
      have hD : va_D A [(a1, .inr (4, [.ref b1, .int (nI l1.length), .int o1])), (b1, .inl (kI, n1, .inl f1)), (a2, .inr (7, [.ref a3])), (a3, .inr (0, [.int v3_value, .int v3_held])), (a0, .inr (4, [.ref b0, .int (nI l0.length), .int o0])), (b0, .inl (kI, n0, .inl f0))] := hD
      refine lv_icmp_ge (tgt := 108) hx hb d_Writer_writeUtf7_11 (by decide) (fun c_3 => ?_) (fun c_3 => ?_)
      · rw [if_pos c_3] at hF
        exact hret (f1, l1, o1, v3_value, v3_held) _ _ _ _ d_Writer_writeUtf7_108 (⟨hRES.symm.trans hF, hr1⟩) (hP.sub [4, 5, 0, 1, 2, 3] rfl) (hD.sub [4, 5, 0, 1, 2, 3] (by decide) rfl) hS
      · rw [if_neg c_3] at hF
        refine lv_iload hx hb d_Writer_writeUtf7_14 (lv_at hl 4 rfl) ?_
        refine lv_iload_n hx hb d_Writer_writeUtf7_16 rfl (lv_at hl 3 rfl) ?_
        refine lv_icmp_ge (tgt := 23) hx hb d_Writer_writeUtf7_17 (by decide) (fun c_4 => ?_) (fun c_4 => ?_)
        · rw [if_pos c_4] at hF
          refine lv_aload_n hx hb d_Writer_writeUtf7_23 rfl (lv_at hl 1 rfl) ?_
          refine lv_iload hx hb d_Writer_writeUtf7_24 (lv_at hl 4 rfl) ?_
          refine g_Vi (As := [.int i4]) (rest := []) (wr := [(a1, .inr (4, [.ref b1, .int (nI l1.length), .int o1])), (b1, .inl (kI, n1, .inl f1)), (a2, .inr (7, [.ref a3])), (a3, .inr (0, [.int v3_value, .int v3_held]))]) ⟨hx, hb, hml, hown, hts⟩ (c_Row_get l D Z kI a0 b0 n0 H.size f0 l0 o0 i4 hr0) (cw_Row_get hts k_688 ⟨Nat.le_of_ble_eq_true rfl, Nat.le_of_ble_eq_true rfl⟩) hK hZ hP hD hS hA [4, 5] [0, 1, 2, 3] (g_recv hK hP (ci := 4) (q0 := 4) rfl rfl) rfl rfl (by decide) (by decide) (by decide) rfl hl.1 rfl (Nat.le_of_ble_eq_true rfl) d_Writer_writeUtf7_26 ⟨Nat.zero_le _, Nat.zero_le _⟩ (fun r_5 u_5 H locs hw hP hD hS => ?_)
          have e_5 := hw
          subst e_5
          have hP : va_P D vwCl [(a1, .inr (4, [.ref b1, .int (nI l1.length), .int o1])), (b1, .inl (kI, n1, .inl f1)), (a2, .inr (7, [.ref a3])), (a3, .inr (0, [.int v3_value, .int v3_held])), (a0, .inr (4, [.ref b0, .int (nI l0.length), .int o0])), (b0, .inl (kI, n0, .inl f0))] H := hP
          have hD : va_D A [(a1, .inr (4, [.ref b1, .int (nI l1.length), .int o1])), (b1, .inl (kI, n1, .inl f1)), (a2, .inr (7, [.ref a3])), (a3, .inr (0, [.int v3_value, .int v3_held])), (a0, .inr (4, [.ref b0, .int (nI l0.length), .int o0])), (b0, .inl (kI, n0, .inl f0))] := hD
          refine lv_istore (lv' := [(5, .int (m_Row_get l0 i4)), (0, .ref a2), (1, .ref a0), (2, .ref a1), (3, .int i3), (4, .int i4)]) hx hb d_Writer_writeUtf7_29 hl (by decide) rfl (fun ls hl => ?_)
          refine lv_aload_n hx hb d_Writer_writeUtf7_31 rfl (lv_at hl 2 rfl) ?_
          refine lv_iload hx hb d_Writer_writeUtf7_32 (lv_at hl 5 rfl) ?_
          refine g_Si (As := [.ref a0, .int i4]) (rest := []) (wr := [(a1, .inr (4, [.ref b1, .int (nI l1.length), .int o1])), (b1, .inl (kI, n1, .inl f1)), (a2, .inr (7, [.ref a3])), (a3, .inr (0, [.int v3_value, .int v3_held]))]) ⟨hx, hb, hml, hown, hts⟩ (c_Writer_endOfRun l D Z kI a0 b0 n0 H.size f0 l0 o0 i4 hr0) (cw_Writer_endOfRun hts k_689 ⟨Nat.le_of_ble_eq_true rfl, Nat.le_of_ble_eq_true rfl⟩) hK hZ hP hD hS hA [4, 5] [0, 1, 2, 3] rfl rfl (by decide) (by decide) (by decide) rfl hl.1 rfl (Nat.le_of_ble_eq_true rfl) d_Writer_writeUtf7_34 ⟨Nat.zero_le _, Nat.zero_le _⟩ (fun r_6 u_6 H locs hw hP hD hS => ?_)
          have e_6 := hw
          subst e_6
          have hP : va_P D vwCl [(a1, .inr (4, [.ref b1, .int (nI l1.length), .int o1])), (b1, .inl (kI, n1, .inl f1)), (a2, .inr (7, [.ref a3])), (a3, .inr (0, [.int v3_value, .int v3_held])), (a0, .inr (4, [.ref b0, .int (nI l0.length), .int o0])), (b0, .inl (kI, n0, .inl f0))] H := hP
          have hD : va_D A [(a1, .inr (4, [.ref b1, .int (nI l1.length), .int o1])), (b1, .inl (kI, n1, .inl f1)), (a2, .inr (7, [.ref a3])), (a3, .inr (0, [.int v3_value, .int v3_held])), (a0, .inr (4, [.ref b0, .int (nI l0.length), .int o0])), (b0, .inl (kI, n0, .inl f0))] := hD
          refine lv_istore_n (lv' := [(3, .int (m_Writer_endOfRun l0 i4)), (5, .int (m_Row_get l0 i4)), (0, .ref a2), (1, .ref a0), (2, .ref a1), (4, .int i4)]) hx hb d_Writer_writeUtf7_37 rfl hl (by decide) rfl (fun ls hl => ?_)
          refine lv_iload_n hx hb d_Writer_writeUtf7_38 rfl (lv_at hl 0 rfl) ?_
          refine lv_iload hx hb d_Writer_writeUtf7_39 (lv_at hl 5 rfl) ?_
          refine lv_icmp_le (tgt := 48) hx hb d_Writer_writeUtf7_41 (by decide) (fun c_7 => ?_) (fun c_7 => ?_)
          · rw [if_pos c_7] at hF
            refine lv_iconst (v := 0) hx hb d_Writer_writeUtf7_48 (by decide) ?_
            refine lv_istore (lv' := [(6, .int 0), (3, .int (m_Writer_endOfRun l0 i4)), (5, .int (m_Row_get l0 i4)), (0, .ref a2), (1, .ref a0), (2, .ref a1), (4, .int i4)]) hx hb d_Writer_writeUtf7_49 hl (by decide) rfl (fun ls hl => ?_)
            refine lv_aload_n hx hb d_Writer_writeUtf7_51 rfl (lv_at hl 5 rfl) ?_
            refine g_Vi (As := []) (rest := []) (wr := [(a2, .inr (7, [.ref a3])), (a3, .inr (0, [.int v3_value, .int v3_held])), (a0, .inr (4, [.ref b0, .int (nI l0.length), .int o0])), (b0, .inl (kI, n0, .inl f0))]) ⟨hx, hb, hml, hown, hts⟩ (c_Row_room l D Z kI a1 b1 n1 H.size f1 l1 o1 hr1) (cw_Row_room hts k_695 ⟨Nat.le_of_ble_eq_true rfl, Nat.le_of_ble_eq_true rfl⟩) hK hZ hP hD hS hA [0, 1] [2, 3, 4, 5] (g_recv hK hP (ci := 4) (q0 := 0) rfl rfl) rfl rfl (by decide) (by decide) (by decide) rfl hl.1 rfl (Nat.le_of_ble_eq_true rfl) d_Writer_writeUtf7_52 ⟨Nat.zero_le _, Nat.zero_le _⟩ (fun r_8 u_8 H locs hw hP hD hS => ?_)
            have e_8 := hw
            subst e_8
            have hP : va_P D vwCl [(a2, .inr (7, [.ref a3])), (a3, .inr (0, [.int v3_value, .int v3_held])), (a0, .inr (4, [.ref b0, .int (nI l0.length), .int o0])), (b0, .inl (kI, n0, .inl f0)), (a1, .inr (4, [.ref b1, .int (nI l1.length), .int o1])), (b1, .inl (kI, n1, .inl f1))] H := hP
            have hD : va_D A [(a2, .inr (7, [.ref a3])), (a3, .inr (0, [.int v3_value, .int v3_held])), (a0, .inr (4, [.ref b0, .int (nI l0.length), .int o0])), (b0, .inl (kI, n0, .inl f0)), (a1, .inr (4, [.ref b1, .int (nI l1.length), .int o1])), (b1, .inl (kI, n1, .inl f1))] := hD
            refine lv_iload hx hb d_Writer_writeUtf7_55 (lv_at hl 0 rfl) ?_
            refine lv_if_eq (tgt := 70) hx hb d_Writer_writeUtf7_57 (by decide) (fun c_9 => ?_) (fun c_9 => ?_)
            · refine lv_iload hx hb d_Writer_writeUtf7_70 (lv_at hl 2 rfl) ?_
              refine g_Si (As := [.int (m_Row_get l0 i4)]) (rest := [.int (m_Row_room n1 l1)]) (wr := [(a2, .inr (7, [.ref a3])), (a3, .inr (0, [.int v3_value, .int v3_held])), (a0, .inr (4, [.ref b0, .int (nI l0.length), .int o0])), (b0, .inl (kI, n0, .inl f0)), (a1, .inr (4, [.ref b1, .int (nI l1.length), .int o1])), (b1, .inl (kI, n1, .inl f1))]) ⟨hx, hb, hml, hown, hts⟩ (c_Writer_directWidthOf l D Z kI H.size (m_Row_get l0 i4)) (cw_Writer_directWidthOf hts k_703 ⟨Nat.le_of_ble_eq_true rfl, Nat.le_of_ble_eq_true rfl⟩) hK hZ hP hD hS hA [] [0, 1, 2, 3, 4, 5] rfl rfl (by decide) (by decide) (by decide) rfl hl.1 rfl (Nat.le_of_ble_eq_true rfl) d_Writer_writeUtf7_72 ⟨Nat.zero_le _, Nat.zero_le _⟩ (fun r_10 u_10 H locs hw hP hD hS => ?_)
              have e_10 := hw
              subst e_10
              have hP : va_P D vwCl [(a2, .inr (7, [.ref a3])), (a3, .inr (0, [.int v3_value, .int v3_held])), (a0, .inr (4, [.ref b0, .int (nI l0.length), .int o0])), (b0, .inl (kI, n0, .inl f0)), (a1, .inr (4, [.ref b1, .int (nI l1.length), .int o1])), (b1, .inl (kI, n1, .inl f1))] H := hP
              have hD : va_D A [(a2, .inr (7, [.ref a3])), (a3, .inr (0, [.int v3_value, .int v3_held])), (a0, .inr (4, [.ref b0, .int (nI l0.length), .int o0])), (b0, .inl (kI, n0, .inl f0)), (a1, .inr (4, [.ref b1, .int (nI l1.length), .int o1])), (b1, .inl (kI, n1, .inl f1))] := hD
              refine lv_icmp_ge (tgt := 79) hx hb d_Writer_writeUtf7_75 (by decide) (fun c_11 => ?_) (fun c_11 => ?_)
              · rw [if_pos c_11] at hF
                refine lv_iload hx hb d_Writer_writeUtf7_79 (lv_at hl 0 rfl) ?_
                refine lv_if_eq (tgt := 96) hx hb d_Writer_writeUtf7_81 (by decide) (fun c_12 => ?_) (fun c_12 => ?_)
                · refine lv_iload hx hb d_Writer_writeUtf7_96 (lv_at hl 2 rfl) ?_
                  refine lv_aload_n hx hb d_Writer_writeUtf7_98 rfl (lv_at hl 5 rfl) ?_
                  refine g_Sv (As := [.int (m_Row_get l0 i4), .ref a1]) (rest := []) (wr := [(a2, .inr (7, [.ref a3])), (a3, .inr (0, [.int v3_value, .int v3_held])), (a0, .inr (4, [.ref b0, .int (nI l0.length), .int o0])), (b0, .inl (kI, n0, .inl f0))]) ⟨hx, hb, hml, hown, hts⟩ (c_Writer_writeDirectly l D Z kI a1 b1 n1 H.size f1 l1 o1 (m_Row_get l0 i4) hr1) (cw_Writer_writeDirectly hts k_732 ⟨Nat.le_of_ble_eq_true rfl, Nat.le_of_ble_eq_true rfl⟩) hK hZ hP hD hS hA [4, 5] [0, 1, 2, 3] rfl rfl (by decide) (by decide) (by decide) rfl hl.1 rfl (Nat.le_of_ble_eq_true rfl) d_Writer_writeUtf7_99 ⟨Nat.zero_le _, Nat.zero_le _⟩ (fun u_13 H locs hw hP hD hS => ?_)
                  obtain ⟨f3_13, l3_13, o3_13⟩ := u_13
                  have e_13 := hw.1
                  have hr3_13 := hw.2
                  have hP : va_P D vwCl [(a2, .inr (7, [.ref a3])), (a3, .inr (0, [.int v3_value, .int v3_held])), (a0, .inr (4, [.ref b0, .int (nI l0.length), .int o0])), (b0, .inl (kI, n0, .inl f0)), (a1, .inr (4, [.ref b1, .int (nI l3_13.length), .int o3_13])), (b1, .inl (kI, n1, .inl f3_13))] H := hP
                  have hD : va_D A [(a2, .inr (7, [.ref a3])), (a3, .inr (0, [.int v3_value, .int v3_held])), (a0, .inr (4, [.ref b0, .int (nI l0.length), .int o0])), (b0, .inl (kI, n0, .inl f0)), (a1, .inr (4, [.ref b1, .int (nI l3_13.length), .int o3_13])), (b1, .inl (kI, n1, .inl f3_13))] := hD
                  rw [e_13] at hF; dsimp only at hF
                  refine lv_iinc (v := (i4 + 1)) (lv' := [(4, .int (i4 + 1)), (6, .int 0), (3, .int (m_Writer_endOfRun l0 i4)), (5, .int (m_Row_get l0 i4)), (0, .ref a2), (1, .ref a0), (2, .ref a1)]) hx hb d_Writer_writeUtf7_102 hl (k := 6) rfl rfl (by decide) rfl (fun ls hl => ?_)
                  refine lv_goto (tgt := 5) hx hb d_Writer_writeUtf7_105 (by decide) ?_
                  exact ih5 (m_Writer_endOfRun l0 i4) (i4 + 1) f3_13 l3_13 o3_13 v3_value v3_held hr3_13 _ _ _  (Nat.lt_of_lt_of_le (g_dec1 c_3) (Nat.le_of_lt_succ hn5)) hF (hP.sub [2, 3, 4, 5, 0, 1] rfl) (hD.sub [2, 3, 4, 5, 0, 1] (by decide) rfl) hS (lv_sub hl [4, 5, 6, 2, 0] rfl)
                · exact absurd c_12 (by decide)
              · rw [if_neg c_11] at hF
                exact hret (f1, l1, o1, v3_value, v3_held) _ _ _ _ d_Writer_writeUtf7_78 (⟨hRES.symm.trans hF, hr1⟩) (hP.sub [2, 3, 4, 5, 0, 1] rfl) (hD.sub [2, 3, 4, 5, 0, 1] (by decide) rfl) hS
            · exact absurd c_9 (by decide)
          · rw [if_neg c_7] at hF
            refine lv_iconst (v := 1) hx hb d_Writer_writeUtf7_44 (by decide) ?_
            refine lv_goto (tgt := 49) hx hb d_Writer_writeUtf7_45 (by decide) ?_
            refine lv_istore (lv' := [(6, .int 1), (3, .int (m_Writer_endOfRun l0 i4)), (5, .int (m_Row_get l0 i4)), (0, .ref a2), (1, .ref a0), (2, .ref a1), (4, .int i4)]) hx hb d_Writer_writeUtf7_49 hl (by decide) rfl (fun ls hl => ?_)
            refine lv_aload_n hx hb d_Writer_writeUtf7_51 rfl (lv_at hl 5 rfl) ?_
            refine g_Vi (As := []) (rest := []) (wr := [(a2, .inr (7, [.ref a3])), (a3, .inr (0, [.int v3_value, .int v3_held])), (a0, .inr (4, [.ref b0, .int (nI l0.length), .int o0])), (b0, .inl (kI, n0, .inl f0))]) ⟨hx, hb, hml, hown, hts⟩ (c_Row_room l D Z kI a1 b1 n1 H.size f1 l1 o1 hr1) (cw_Row_room hts k_695 ⟨Nat.le_of_ble_eq_true rfl, Nat.le_of_ble_eq_true rfl⟩) hK hZ hP hD hS hA [0, 1] [2, 3, 4, 5] (g_recv hK hP (ci := 4) (q0 := 0) rfl rfl) rfl rfl (by decide) (by decide) (by decide) rfl hl.1 rfl (Nat.le_of_ble_eq_true rfl) d_Writer_writeUtf7_52 ⟨Nat.zero_le _, Nat.zero_le _⟩ (fun r_14 u_14 H locs hw hP hD hS => ?_)
            have e_14 := hw
            subst e_14
            have hP : va_P D vwCl [(a2, .inr (7, [.ref a3])), (a3, .inr (0, [.int v3_value, .int v3_held])), (a0, .inr (4, [.ref b0, .int (nI l0.length), .int o0])), (b0, .inl (kI, n0, .inl f0)), (a1, .inr (4, [.ref b1, .int (nI l1.length), .int o1])), (b1, .inl (kI, n1, .inl f1))] H := hP
            have hD : va_D A [(a2, .inr (7, [.ref a3])), (a3, .inr (0, [.int v3_value, .int v3_held])), (a0, .inr (4, [.ref b0, .int (nI l0.length), .int o0])), (b0, .inl (kI, n0, .inl f0)), (a1, .inr (4, [.ref b1, .int (nI l1.length), .int o1])), (b1, .inl (kI, n1, .inl f1))] := hD
            refine lv_iload hx hb d_Writer_writeUtf7_55 (lv_at hl 0 rfl) ?_
            refine lv_if_eq (tgt := 70) hx hb d_Writer_writeUtf7_57 (by decide) (fun c_15 => ?_) (fun c_15 => ?_)
            · exact absurd c_15 (by decide)
            · refine lv_aload_n hx hb d_Writer_writeUtf7_60 rfl (lv_at hl 4 rfl) ?_
              refine lv_iload hx hb d_Writer_writeUtf7_61 (lv_at hl 6 rfl) ?_
              refine lv_iload_n hx hb d_Writer_writeUtf7_63 rfl (lv_at hl 1 rfl) ?_
              refine g_Si (As := [.ref a0, .int i4, .int (m_Writer_endOfRun l0 i4)]) (rest := [.int (m_Row_room n1 l1)]) (wr := [(a2, .inr (7, [.ref a3])), (a3, .inr (0, [.int v3_value, .int v3_held])), (a1, .inr (4, [.ref b1, .int (nI l1.length), .int o1])), (b1, .inl (kI, n1, .inl f1))]) ⟨hx, hb, hml, hown, hts⟩ (c_Writer_widthOfRun l D Z kI a0 b0 n0 H.size f0 l0 o0 i4 (m_Writer_endOfRun l0 i4) hr0) (cw_Writer_widthOfRun hts k_696 ⟨Nat.le_of_ble_eq_true rfl, Nat.le_of_ble_eq_true rfl⟩) hK hZ hP hD hS hA [2, 3] [0, 1, 4, 5] rfl rfl (by decide) (by decide) (by decide) rfl hl.1 rfl (Nat.le_of_ble_eq_true rfl) d_Writer_writeUtf7_64 ⟨Nat.zero_le _, Nat.zero_le _⟩ (fun r_16 u_16 H locs hw hP hD hS => ?_)
              have e_16 := hw
              subst e_16
              have hP : va_P D vwCl [(a2, .inr (7, [.ref a3])), (a3, .inr (0, [.int v3_value, .int v3_held])), (a1, .inr (4, [.ref b1, .int (nI l1.length), .int o1])), (b1, .inl (kI, n1, .inl f1)), (a0, .inr (4, [.ref b0, .int (nI l0.length), .int o0])), (b0, .inl (kI, n0, .inl f0))] H := hP
              have hD : va_D A [(a2, .inr (7, [.ref a3])), (a3, .inr (0, [.int v3_value, .int v3_held])), (a1, .inr (4, [.ref b1, .int (nI l1.length), .int o1])), (b1, .inl (kI, n1, .inl f1)), (a0, .inr (4, [.ref b0, .int (nI l0.length), .int o0])), (b0, .inl (kI, n0, .inl f0))] := hD
              refine lv_goto (tgt := 75) hx hb d_Writer_writeUtf7_67 (by decide) ?_
              refine lv_icmp_ge (tgt := 79) hx hb d_Writer_writeUtf7_75 (by decide) (fun c_17 => ?_) (fun c_17 => ?_)
              · rw [if_pos c_17] at hF
                refine lv_iload hx hb d_Writer_writeUtf7_79 (lv_at hl 0 rfl) ?_
                refine lv_if_eq (tgt := 96) hx hb d_Writer_writeUtf7_81 (by decide) (fun c_18 => ?_) (fun c_18 => ?_)
                · exact absurd c_18 (by decide)
                · refine lv_aload_n hx hb d_Writer_writeUtf7_84 rfl (lv_at hl 3 rfl) ?_
                  refine lv_aload_n hx hb d_Writer_writeUtf7_85 rfl (lv_at hl 4 rfl) ?_
                  refine lv_iload hx hb d_Writer_writeUtf7_86 (lv_at hl 6 rfl) ?_
                  refine lv_iload_n hx hb d_Writer_writeUtf7_88 rfl (lv_at hl 1 rfl) ?_
                  refine lv_aload_n hx hb d_Writer_writeUtf7_89 rfl (lv_at hl 5 rfl) ?_
                  refine g_Vv (As := [.ref a0, .int i4, .int (m_Writer_endOfRun l0 i4), .ref a1]) (rest := []) (wr := []) ⟨hx, hb, hml, hown, hts⟩ (c_Writer_writeRun l D Z kI a2 a3 a1 b1 n1 a0 b0 n0 H.size v3_value v3_held f1 l1 o1 f0 l0 o0 i4 (m_Writer_endOfRun l0 i4) hr1 hr0) (cw_Writer_writeRun hts k_706 ⟨Nat.le_of_ble_eq_true rfl, Nat.le_of_ble_eq_true rfl⟩) hK hZ hP hD hS hA [0, 1, 2, 3, 4, 5] [] (g_recv hK hP (ci := 7) (q0 := 0) rfl rfl) rfl rfl (by decide) (by decide) (by decide) rfl hl.1 rfl (Nat.le_of_ble_eq_true rfl) d_Writer_writeUtf7_90 ⟨Nat.zero_le _, Nat.zero_le _⟩ (fun u_19 H locs hw hP hD hS => ?_)
                  obtain ⟨v1_value_19, v1_held_19, f2_19, l2_19, o2_19⟩ := u_19
                  have e_19 := hw.1
                  have hr2_19 := hw.2
                  have hP : va_P D vwCl [(a2, .inr (7, [.ref a3])), (a3, .inr (0, [.int v1_value_19, .int v1_held_19])), (a1, .inr (4, [.ref b1, .int (nI l2_19.length), .int o2_19])), (b1, .inl (kI, n1, .inl f2_19)), (a0, .inr (4, [.ref b0, .int (nI l0.length), .int o0])), (b0, .inl (kI, n0, .inl f0))] H := hP
                  have hD : va_D A [(a2, .inr (7, [.ref a3])), (a3, .inr (0, [.int v1_value_19, .int v1_held_19])), (a1, .inr (4, [.ref b1, .int (nI l2_19.length), .int o2_19])), (b1, .inl (kI, n1, .inl f2_19)), (a0, .inr (4, [.ref b0, .int (nI l0.length), .int o0])), (b0, .inl (kI, n0, .inl f0))] := hD
                  rw [e_19] at hF; dsimp only at hF
                  refine lv_goto (tgt := 102) hx hb d_Writer_writeUtf7_93 (by decide) ?_
                  refine lv_iinc (v := (i4 + 1)) (lv' := [(4, .int (i4 + 1)), (6, .int 1), (3, .int (m_Writer_endOfRun l0 i4)), (5, .int (m_Row_get l0 i4)), (0, .ref a2), (1, .ref a0), (2, .ref a1)]) hx hb d_Writer_writeUtf7_102 hl (k := 6) rfl rfl (by decide) rfl (fun ls hl => ?_)
                  refine lv_goto (tgt := 5) hx hb d_Writer_writeUtf7_105 (by decide) ?_
                  exact ih5 (m_Writer_endOfRun l0 i4) (i4 + 1) f2_19 l2_19 o2_19 v1_value_19 v1_held_19 hr2_19 _ _ _  (Nat.lt_of_lt_of_le (g_dec1 c_3) (Nat.le_of_lt_succ hn5)) hF (hP.sub [4, 5, 2, 3, 0, 1] rfl) (hD.sub [4, 5, 2, 3, 0, 1] (by decide) rfl) hS (lv_sub hl [4, 5, 6, 2, 0] rfl)
              · rw [if_neg c_17] at hF
                exact hret (f1, l1, o1, v3_value, v3_held) _ _ _ _ d_Writer_writeUtf7_78 (⟨hRES.symm.trans hF, hr1⟩) (hP.sub [4, 5, 2, 3, 0, 1] rfl) (hD.sub [4, 5, 2, 3, 0, 1] (by decide) rfl) hS
        · rw [if_neg c_4] at hF
          refine lv_goto (tgt := 102) hx hb d_Writer_writeUtf7_20 (by decide) ?_
          refine lv_iinc (v := (i4 + 1)) (lv' := [(4, .int (i4 + 1)), (0, .ref a2), (1, .ref a0), (2, .ref a1), (3, .int i3)]) hx hb d_Writer_writeUtf7_102 hl (k := 4) rfl rfl (by decide) rfl (fun ls hl => ?_)
          refine lv_goto (tgt := 5) hx hb d_Writer_writeUtf7_105 (by decide) ?_
          exact ih5 i3 (i4 + 1) f1 l1 o1 v3_value v3_held hr1 _ _ _  (Nat.lt_of_lt_of_le (g_dec1 c_3) (Nat.le_of_lt_succ hn5)) hF (hP.sub [4, 5, 0, 1, 2, 3] rfl) (hD.sub [4, 5, 0, 1, 2, 3] (by decide) rfl) hS (lv_sub hl [1, 2, 3, 4, 0] rfl)
  have hF := hRES
  rw [m_Writer_writeUtf7] at hF
  refine lv_iconst (v := 0) hx hb d_Writer_writeUtf7_0 (by decide) ?_
  refine lv_istore_n (lv' := [(3, .int 0), (0, .ref a2), (1, .ref a0), (2, .ref a1)]) hx hb d_Writer_writeUtf7_1 rfl hl (by decide) rfl (fun ls hl => ?_)
  refine lv_iconst (v := 0) hx hb d_Writer_writeUtf7_2 (by decide) ?_
  refine lv_istore (lv' := [(4, .int 0), (3, .int 0), (0, .ref a2), (1, .ref a0), (2, .ref a1)]) hx hb d_Writer_writeUtf7_3 hl (by decide) rfl (fun ls hl => ?_)
  exact lp5 (((m_Row_size l0).toInt - (0 : Int32).toInt).toNat + 1) 0 0 f1 l1 o1 v3_value v3_held hr1 _ _ _  (Nat.lt_succ_self _) hF hP hD hS (lv_sub hl [2, 3, 4, 1, 0] rfl)
theorem cw_Writer_writeUtf7 {R : Room} {s : State} {args : Array Value} {own : String} {idx : Nat} (hts : ∀ w ∈ gW, w.before args s = true) (hl : Cond.methodLink own idx y_Writer_writeUtf7 ∈ gW) (hR : rm_Writer_writeUtf7.frames + 1 ≤ R.frames ∧ 8 + (7 + 11) + rm_Writer_writeUtf7.locals ≤ R.locals) : CallW R s args own "MailCharacters$Writer" idx y_Writer_writeUtf7 b_Writer_writeUtf7 7 none w_Writer_writeUtf7 rm_Writer_writeUtf7 0 0 2 := cwV 2 hts (gW_V hl k_685 k_16 k_75 k_686) rfl rfl rfl (by decide +kernel) hR
